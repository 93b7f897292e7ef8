/-! pairs of calls: image, restore (printed by wip/whole/gen14.py) -/
section
variable {X : SX}
theorem op_image : OPi X 106 145 [] := by
  refine op_of fun q I L hq hI => ?_
  obtain ⟨hz, ⟨n, c, m, hH⟩, hE, hK, hO⟩ := id hI
  obtain ⟨E1, E2, E3, E4, E5, E6, E7, E8, E9, E10, E11, E12, E13, E14, E15, E16, E17, E18, E19, E20⟩ := id hE
  refine Or.inr ⟨I 1 1, u2 (cp_17_1 I) 0 3 1, L, sv0 (u2 (u2 (cp_17_1 I) 0 3 1) 71 29 1), L, ?_, ?_, fun hz2 => ?_⟩
  · simp only [e106, a106_0, a106_1, a106_4, a106_5, a106_8, a106_11, a106_12, a106_13, a106_16, a106_17, a106_20, a106_23, qgR_some, qiaR_1, qlaR_2, qlnR_1, qlnR_2, qcpR_1, qcR_some, qpsh_v, qpsh_n, qcS_0, qcS_i, qcS_r, qcS_l, qst1_0_x, qst2_0_x, qst1_1_n, qst2_1_n, qst1_1_i, qst2_1_i, qst1_1_r, qst2_1_r, qst1_2_n, qst2_2_n, qst1_2_i, qst2_2_i, qst1_2_r, qst2_2_r, qst1_3_n, qst2_3_n, qst1_3_i, qst2_3_i, qst1_3_r, qst2_3_r, qst1_4_n, qst2_4_n, qst1_4_i, qst2_4_i, qst1_4_r, qst2_4_r, qst1_5_n, qst2_5_n, qst1_5_i, qst2_5_i, qst1_5_r, qst2_5_r, qst1_6_n, qst2_6_n, qst1_6_i, qst2_6_i, qst1_6_r, qst2_6_r, qst1_7_n, qst2_7_n, qst1_7_i, qst2_7_i, qst1_7_r, qst2_7_r, qst1_8_n, qst2_8_n, qst1_8_i, qst2_8_i, qst1_8_r, qst2_8_r, qst1_9_n, qst2_9_n, qst1_9_i, qst2_9_i, qst1_9_r, qst2_9_r, qst1_10_n, qst2_10_n, qst1_10_i, qst2_10_i, qst1_10_r, qst2_10_r, qst1_11_n, qst2_11_n, qst1_11_i, qst2_11_i, qst1_11_r, qst2_11_r, qswE_0, qswE_s, u2_row, z2_row, n32_0_1, n32_0_2, n32_0_3, n32_0_4, n32_0_5, n32_0_6, n32_0_7, n32_0_8, n32_1_0, n32_1_2, n32_1_3, n32_1_4, n32_1_5, n32_1_6, n32_1_7, n32_1_8, n32_2_0, n32_2_1, n32_2_3, n32_2_4, n32_2_5, n32_2_6, n32_2_7, n32_2_8, n32_3_0, n32_3_1, n32_3_2, n32_3_4, n32_3_5, n32_3_6, n32_3_7, n32_3_8, n32_4_0, n32_4_1, n32_4_2, n32_4_3, n32_4_5, n32_4_6, n32_4_7, n32_4_8, n32_5_0, n32_5_1, n32_5_2, n32_5_3, n32_5_4, n32_5_6, n32_5_7, n32_5_8, n32_6_0, n32_6_1, n32_6_2, n32_6_3, n32_6_4, n32_6_5, n32_6_7, n32_6_8, n32_7_0, n32_7_1, n32_7_2, n32_7_3, n32_7_4, n32_7_5, n32_7_6, n32_7_8, n32_8_0, n32_8_1, n32_8_2, n32_8_3, n32_8_4, n32_8_5, n32_8_6, n32_8_7, n32_m1_0, n32_m1_1, n32_m1_2, n32_m2_0, n32_m2_1, n32_m2_2, n32_m3_0, n32_m3_1, n32_m3_2, n32_m4_0, n32_m4_1, n32_m4_2, n32_m6_0, n32_m6_1, n32_m6_2, n32_m9_0, n32_m9_1, n32_m9_2, true_or, or_true, if_true, if_false, eq_self, and_true, true_and, and_self, reduceCtorEq, not_true_eq_false, not_false_eq_true, or_self, false_or, or_false, false_and, and_false, Option.some.injEq, Prod.mk.injEq, Nat.reduceAdd, Nat.reduceMul, Nat.reduceSub, Nat.reduceLT, Nat.reduceEqDiff, Nat.reduceLeDiff, Int32.reduceAdd, Int32.reduceMul, Int32.reduceSub, Int32.reduceLT, Int32.reduceLE, Int32.reduceOfNat, Int32.reduceToNatClampNeg, reduceIte, Nat.zero_le, Nat.reduceDiv, qhk_0, qhk_1, qhk_2, qhk_3, qhk_4, qhk_5, qhk_6, qhk_7, qhk_8, qhk_9, qhk_10, qhk_11, qhk_12, qhk_13, qhk_14, qhk_15, qhk_16, qhk_17, qhk_18, qhk_19, qhk_20, qhk_21, qhk_22, qhk_23, qhk_24, qhk_25, qhk_26, qhk_27, qhk_28, qhk_29, qhk_30, qhk_31, qhk_32, qhk_33, qhk_34, qhk_35, qhk_36, qhk_37, qhk_38, qhk_39, qhk_40, qhk_41, qhk_42, qhk_43, qhk_44, qhk_45, qhk_46, qhk_47, qhk_48, qhk_49, qhk_50, qhk_51, qhk_52, qhk_53, qhk_54, qhk_55, qhk_56, qhk_57, qhk_58, qhk_59, qhk_60, qhk_61, qhk_62, qhk_63, qhk_64, qhk_65, qhk_66, qhk_67, qhk_68, qhk_69, qhk_70, qhk_71, qhk_72, qhk_73, qhk_74, qhk_75, qhk_76, qhk_77, qhk_78, qhk_79, qhk_80, qhk_81, qhk_82, qhk_83, qhk_84, qhk_85, qhk_86, qhk_87, qhk_88, qhk_89, qhk_90, qhk_91, qhk_92, qhk_93, qhk_94, qhk_95, qhk_96, pp_0_0, pp_0_1, pp_0_2, pp_0_4, pp_0_5, pp_0_6, pp_0_7, pp_0_8, pp_0_9, pp_1_3, pp_1_4, pp_1_5, pp_1_6, pp_1_7, pp_1_8, pp_1_9, pp_7_1, pp_7_2, pp_7_3, pp_7_4, pp_12_1, pp_12_2, pp_12_3, pp_12_4, pp_17_3, pp_17_4, pp_17_5, pp_17_6, pp_17_7, pp_17_8, pp_17_9, pp_23_1, pp_23_2, pp_23_3, pp_23_4, pp_28_1, pp_28_2, pp_28_3, pp_28_4, pp_33_3, pp_33_4, pp_33_5, pp_33_6, pp_33_7, pp_33_8, pp_33_9, pp_39_1, pp_39_2, pp_39_3, pp_39_4, pp_44_1, pp_44_2, pp_44_3, pp_44_4, pp_49_0, pp_51_0, pp_53_0, pp_53_1, pp_53_2, pp_58_0, pp_58_1, pp_58_4, pp_58_5, pp_58_6, pp_58_7, pp_61_0, pp_61_1, pp_61_2, pp_65_0, pp_68_0, pp_71_0, pp_71_1, pp_71_2, pp_71_3, pp_71_4, pp_71_5, pp_71_6, pp_71_7, pp_71_8, pp_71_9, pp_71_10, pp_71_11, pp_71_12, pp_71_21, pp_71_22, pp_71_23, pp_71_24, pp_71_28, pp_71_32, pp_71_33, pp_71_34, pp_71_35, pp_71_36, pp_71_39, pp_71_40, c21_17_1]
    rfl
  · simp only [e145, a145_0, a145_1, a145_2, a145_5, a145_6, a145_7, a145_8, a145_11, a145_12, a145_15, qgR_some, qiaR_1, qlaR_2, qlnR_1, qlnR_2, qcpR_1, qcR_some, qpsh_v, qpsh_n, qcS_0, qcS_i, qcS_r, qcS_l, qst1_0_x, qst2_0_x, qst1_1_n, qst2_1_n, qst1_1_i, qst2_1_i, qst1_1_r, qst2_1_r, qst1_2_n, qst2_2_n, qst1_2_i, qst2_2_i, qst1_2_r, qst2_2_r, qst1_3_n, qst2_3_n, qst1_3_i, qst2_3_i, qst1_3_r, qst2_3_r, qst1_4_n, qst2_4_n, qst1_4_i, qst2_4_i, qst1_4_r, qst2_4_r, qst1_5_n, qst2_5_n, qst1_5_i, qst2_5_i, qst1_5_r, qst2_5_r, qst1_6_n, qst2_6_n, qst1_6_i, qst2_6_i, qst1_6_r, qst2_6_r, qst1_7_n, qst2_7_n, qst1_7_i, qst2_7_i, qst1_7_r, qst2_7_r, qst1_8_n, qst2_8_n, qst1_8_i, qst2_8_i, qst1_8_r, qst2_8_r, qst1_9_n, qst2_9_n, qst1_9_i, qst2_9_i, qst1_9_r, qst2_9_r, qst1_10_n, qst2_10_n, qst1_10_i, qst2_10_i, qst1_10_r, qst2_10_r, qst1_11_n, qst2_11_n, qst1_11_i, qst2_11_i, qst1_11_r, qst2_11_r, qswE_0, qswE_s, u2_row, z2_row, n32_0_1, n32_0_2, n32_0_3, n32_0_4, n32_0_5, n32_0_6, n32_0_7, n32_0_8, n32_1_0, n32_1_2, n32_1_3, n32_1_4, n32_1_5, n32_1_6, n32_1_7, n32_1_8, n32_2_0, n32_2_1, n32_2_3, n32_2_4, n32_2_5, n32_2_6, n32_2_7, n32_2_8, n32_3_0, n32_3_1, n32_3_2, n32_3_4, n32_3_5, n32_3_6, n32_3_7, n32_3_8, n32_4_0, n32_4_1, n32_4_2, n32_4_3, n32_4_5, n32_4_6, n32_4_7, n32_4_8, n32_5_0, n32_5_1, n32_5_2, n32_5_3, n32_5_4, n32_5_6, n32_5_7, n32_5_8, n32_6_0, n32_6_1, n32_6_2, n32_6_3, n32_6_4, n32_6_5, n32_6_7, n32_6_8, n32_7_0, n32_7_1, n32_7_2, n32_7_3, n32_7_4, n32_7_5, n32_7_6, n32_7_8, n32_8_0, n32_8_1, n32_8_2, n32_8_3, n32_8_4, n32_8_5, n32_8_6, n32_8_7, n32_m1_0, n32_m1_1, n32_m1_2, n32_m2_0, n32_m2_1, n32_m2_2, n32_m3_0, n32_m3_1, n32_m3_2, n32_m4_0, n32_m4_1, n32_m4_2, n32_m6_0, n32_m6_1, n32_m6_2, n32_m9_0, n32_m9_1, n32_m9_2, true_or, or_true, if_true, if_false, eq_self, and_true, true_and, and_self, reduceCtorEq, not_true_eq_false, not_false_eq_true, or_self, false_or, or_false, false_and, and_false, Option.some.injEq, Prod.mk.injEq, Nat.reduceAdd, Nat.reduceMul, Nat.reduceSub, Nat.reduceLT, Nat.reduceEqDiff, Nat.reduceLeDiff, Int32.reduceAdd, Int32.reduceMul, Int32.reduceSub, Int32.reduceLT, Int32.reduceLE, Int32.reduceOfNat, Int32.reduceToNatClampNeg, reduceIte, Nat.zero_le, Nat.reduceDiv, qhk_0, qhk_1, qhk_2, qhk_3, qhk_4, qhk_5, qhk_6, qhk_7, qhk_8, qhk_9, qhk_10, qhk_11, qhk_12, qhk_13, qhk_14, qhk_15, qhk_16, qhk_17, qhk_18, qhk_19, qhk_20, qhk_21, qhk_22, qhk_23, qhk_24, qhk_25, qhk_26, qhk_27, qhk_28, qhk_29, qhk_30, qhk_31, qhk_32, qhk_33, qhk_34, qhk_35, qhk_36, qhk_37, qhk_38, qhk_39, qhk_40, qhk_41, qhk_42, qhk_43, qhk_44, qhk_45, qhk_46, qhk_47, qhk_48, qhk_49, qhk_50, qhk_51, qhk_52, qhk_53, qhk_54, qhk_55, qhk_56, qhk_57, qhk_58, qhk_59, qhk_60, qhk_61, qhk_62, qhk_63, qhk_64, qhk_65, qhk_66, qhk_67, qhk_68, qhk_69, qhk_70, qhk_71, qhk_72, qhk_73, qhk_74, qhk_75, qhk_76, qhk_77, qhk_78, qhk_79, qhk_80, qhk_81, qhk_82, qhk_83, qhk_84, qhk_85, qhk_86, qhk_87, qhk_88, qhk_89, qhk_90, qhk_91, qhk_92, qhk_93, qhk_94, qhk_95, qhk_96, pp_0_0, pp_0_1, pp_0_2, pp_0_4, pp_0_5, pp_0_6, pp_0_7, pp_0_8, pp_0_9, pp_1_3, pp_1_4, pp_1_5, pp_1_6, pp_1_7, pp_1_8, pp_1_9, pp_7_1, pp_7_2, pp_7_3, pp_7_4, pp_12_1, pp_12_2, pp_12_3, pp_12_4, pp_17_3, pp_17_4, pp_17_5, pp_17_6, pp_17_7, pp_17_8, pp_17_9, pp_23_1, pp_23_2, pp_23_3, pp_23_4, pp_28_1, pp_28_2, pp_28_3, pp_28_4, pp_33_3, pp_33_4, pp_33_5, pp_33_6, pp_33_7, pp_33_8, pp_33_9, pp_39_1, pp_39_2, pp_39_3, pp_39_4, pp_44_1, pp_44_2, pp_44_3, pp_44_4, pp_49_0, pp_51_0, pp_53_0, pp_53_1, pp_53_2, pp_58_0, pp_58_1, pp_58_4, pp_58_5, pp_58_6, pp_58_7, pp_61_0, pp_61_1, pp_61_2, pp_65_0, pp_68_0, pp_71_0, pp_71_1, pp_71_2, pp_71_3, pp_71_4, pp_71_5, pp_71_6, pp_71_7, pp_71_8, pp_71_9, pp_71_10, pp_71_11, pp_71_12, pp_71_21, pp_71_22, pp_71_23, pp_71_24, pp_71_28, pp_71_32, pp_71_33, pp_71_34, pp_71_35, pp_71_36, pp_71_39, pp_71_40, c144_0k]
    rw [sv0_71 (by decide) (by decide)]
    have : (u2 (u2 (cp_17_1 I) 0 3 1) 71 29 1) 71 16 = I 71 16 := rfl
    rw [this, ← E16]
  · generalize hM : u2 (u2 (cp_17_1 I) 0 3 1) 71 29 1 = M at hz2
    have hMo : ∀ b, b < 17 ∨ 32 < b → b ≠ 0 → b ≠ 71 → M b = I b := fun b h1 h2 h3 => by
      rw [← hM]
      funext j
      simp only [u2_row, if_neg h2, if_neg h3, cp_17_1_off (I := I) (b := b) (by omega)]
    have hM71 : ∀ j, j ≠ 29 → M 71 j = I 71 j := fun j hj => by
      rw [← hM]
      simp only [u2_row, reduceIte, if_neg hj, Nat.reduceEqDiff, cp_17_1_off (I := I) (b := 71) (by omega)]
    have so : ∀ b, b ≠ 71 → b ≠ 89 → sv0 M b = M b := fun b => sv0_off
    have s7 : ∀ j, j ≠ 30 → j ≠ 31 → sv0 M 71 j = M 71 j := fun j => sv0_71
    have w1 : sv0 M 1 = I 1 := (so 1 (by decide) (by decide)).trans (hMo 1 (by decide) (by decide) (by decide))
    have w2 : sv0 M 2 = I 2 := (so 2 (by decide) (by decide)).trans (hMo 2 (by decide) (by decide) (by decide))
    have w3 : sv0 M 3 = I 3 := (so 3 (by decide) (by decide)).trans (hMo 3 (by decide) (by decide) (by decide))
    have w4 : sv0 M 4 = I 4 := (so 4 (by decide) (by decide)).trans (hMo 4 (by decide) (by decide) (by decide))
    have w5 : sv0 M 5 = I 5 := (so 5 (by decide) (by decide)).trans (hMo 5 (by decide) (by decide) (by decide))
    have w6 : sv0 M 6 = I 6 := (so 6 (by decide) (by decide)).trans (hMo 6 (by decide) (by decide) (by decide))
    have w7 : sv0 M 7 = I 7 := (so 7 (by decide) (by decide)).trans (hMo 7 (by decide) (by decide) (by decide))
    have w8 : sv0 M 8 = I 8 := (so 8 (by decide) (by decide)).trans (hMo 8 (by decide) (by decide) (by decide))
    have w9 : sv0 M 9 = I 9 := (so 9 (by decide) (by decide)).trans (hMo 9 (by decide) (by decide) (by decide))
    have w10 : sv0 M 10 = I 10 := (so 10 (by decide) (by decide)).trans (hMo 10 (by decide) (by decide) (by decide))
    have w11 : sv0 M 11 = I 11 := (so 11 (by decide) (by decide)).trans (hMo 11 (by decide) (by decide) (by decide))
    have w12 : sv0 M 12 = I 12 := (so 12 (by decide) (by decide)).trans (hMo 12 (by decide) (by decide) (by decide))
    have w13 : sv0 M 13 = I 13 := (so 13 (by decide) (by decide)).trans (hMo 13 (by decide) (by decide) (by decide))
    have w14 : sv0 M 14 = I 14 := (so 14 (by decide) (by decide)).trans (hMo 14 (by decide) (by decide) (by decide))
    have w15 : sv0 M 15 = I 15 := (so 15 (by decide) (by decide)).trans (hMo 15 (by decide) (by decide) (by decide))
    have w16 : sv0 M 16 = I 16 := (so 16 (by decide) (by decide)).trans (hMo 16 (by decide) (by decide) (by decide))
    have w49 : sv0 M 49 = I 49 := (so 49 (by decide) (by decide)).trans (hMo 49 (by decide) (by decide) (by decide))
    have w50 : sv0 M 50 = I 50 := (so 50 (by decide) (by decide)).trans (hMo 50 (by decide) (by decide) (by decide))
    have w51 : sv0 M 51 = I 51 := (so 51 (by decide) (by decide)).trans (hMo 51 (by decide) (by decide) (by decide))
    have w52 : sv0 M 52 = I 52 := (so 52 (by decide) (by decide)).trans (hMo 52 (by decide) (by decide) (by decide))
    have w70 : sv0 M 70 = I 70 := (so 70 (by decide) (by decide)).trans (hMo 70 (by decide) (by decide) (by decide))
    have w72 : sv0 M 72 = I 72 := (so 72 (by decide) (by decide)).trans (hMo 72 (by decide) (by decide) (by decide))
    have w73 : sv0 M 73 = I 73 := (so 73 (by decide) (by decide)).trans (hMo 73 (by decide) (by decide) (by decide))
    have w74 : sv0 M 74 = I 74 := (so 74 (by decide) (by decide)).trans (hMo 74 (by decide) (by decide) (by decide))
    have w75 : sv0 M 75 = I 75 := (so 75 (by decide) (by decide)).trans (hMo 75 (by decide) (by decide) (by decide))
    have w76 : sv0 M 76 = I 76 := (so 76 (by decide) (by decide)).trans (hMo 76 (by decide) (by decide) (by decide))
    have w77 : sv0 M 77 = I 77 := (so 77 (by decide) (by decide)).trans (hMo 77 (by decide) (by decide) (by decide))
    have w78 : sv0 M 78 = I 78 := (so 78 (by decide) (by decide)).trans (hMo 78 (by decide) (by decide) (by decide))
    have w79 : sv0 M 79 = I 79 := (so 79 (by decide) (by decide)).trans (hMo 79 (by decide) (by decide) (by decide))
    have w80 : sv0 M 80 = I 80 := (so 80 (by decide) (by decide)).trans (hMo 80 (by decide) (by decide) (by decide))
    have w81 : sv0 M 81 = I 81 := (so 81 (by decide) (by decide)).trans (hMo 81 (by decide) (by decide) (by decide))
    have w82 : sv0 M 82 = I 82 := (so 82 (by decide) (by decide)).trans (hMo 82 (by decide) (by decide) (by decide))
    have w83 : sv0 M 83 = I 83 := (so 83 (by decide) (by decide)).trans (hMo 83 (by decide) (by decide) (by decide))
    have w84 : sv0 M 84 = I 84 := (so 84 (by decide) (by decide)).trans (hMo 84 (by decide) (by decide) (by decide))
    have w85 : sv0 M 85 = I 85 := (so 85 (by decide) (by decide)).trans (hMo 85 (by decide) (by decide) (by decide))
    have w93 : sv0 M 93 = I 93 := (so 93 (by decide) (by decide)).trans (hMo 93 (by decide) (by decide) (by decide))
    have v18 : sv0 M 18 = I 2 := by rw [so 18 (by decide) (by decide), ← hM]; rfl
    have v19 : sv0 M 19 = I 3 := by rw [so 19 (by decide) (by decide), ← hM]; rfl
    have v20 : sv0 M 20 = I 4 := by rw [so 20 (by decide) (by decide), ← hM]; rfl
    have v21 : sv0 M 21 = I 5 := by rw [so 21 (by decide) (by decide), ← hM]; rfl
    have v24 : sv0 M 24 = I 8 := by rw [so 24 (by decide) (by decide), ← hM]; rfl
    have v25 : sv0 M 25 = I 9 := by rw [so 25 (by decide) (by decide), ← hM]; rfl
    have v26 : sv0 M 26 = I 10 := by rw [so 26 (by decide) (by decide), ← hM]; rfl
    have v27 : sv0 M 27 = I 11 := by rw [so 27 (by decide) (by decide), ← hM]; rfl
    have v29 : sv0 M 29 = I 13 := by rw [so 29 (by decide) (by decide), ← hM]; rfl
    have v30 : sv0 M 30 = I 14 := by rw [so 30 (by decide) (by decide), ← hM]; rfl
    have v31 : sv0 M 31 = I 15 := by rw [so 31 (by decide) (by decide), ← hM]; rfl
    have v32 : sv0 M 32 = I 16 := by rw [so 32 (by decide) (by decide), ← hM]; rfl
    have v17_0 : sv0 M 17 0 = I 1 0 := by rw [so 17 (by decide) (by decide), ← hM]; rfl
    have v17_1 : sv0 M 17 1 = I 1 1 := by rw [so 17 (by decide) (by decide), ← hM]; rfl
    have v17_2 : sv0 M 17 2 = I 1 2 := by rw [so 17 (by decide) (by decide), ← hM]; rfl
    have v22_0 : sv0 M 22 0 = I 6 0 := by rw [so 22 (by decide) (by decide), ← hM]; rfl
    have v22_1 : sv0 M 22 1 = I 6 1 := by rw [so 22 (by decide) (by decide), ← hM]; rfl
    have v22_2 : sv0 M 22 2 = I 6 2 := by rw [so 22 (by decide) (by decide), ← hM]; rfl
    have v23_0 : sv0 M 23 0 = I 7 0 := by rw [so 23 (by decide) (by decide), ← hM]; rfl
    have v28_0 : sv0 M 28 0 = I 12 0 := by rw [so 28 (by decide) (by decide), ← hM]; rfl
    have u13 : sv0 M 71 13 = I 71 13 := (s7 13 (by decide) (by decide)).trans (hM71 13 (by decide))
    have u14 : sv0 M 71 14 = I 71 14 := (s7 14 (by decide) (by decide)).trans (hM71 14 (by decide))
    have u15 : sv0 M 71 15 = I 71 15 := (s7 15 (by decide) (by decide)).trans (hM71 15 (by decide))
    have u16 : sv0 M 71 16 = I 71 16 := (s7 16 (by decide) (by decide)).trans (hM71 16 (by decide))
    have u17 : sv0 M 71 17 = I 71 17 := (s7 17 (by decide) (by decide)).trans (hM71 17 (by decide))
    have u18 : sv0 M 71 18 = I 71 18 := (s7 18 (by decide) (by decide)).trans (hM71 18 (by decide))
    have u19 : sv0 M 71 19 = I 71 19 := (s7 19 (by decide) (by decide)).trans (hM71 19 (by decide))
    have u20 : sv0 M 71 20 = I 71 20 := (s7 20 (by decide) (by decide)).trans (hM71 20 (by decide))
    have u25 : sv0 M 71 25 = I 71 25 := (s7 25 (by decide) (by decide)).trans (hM71 25 (by decide))
    have u37 : sv0 M 71 37 = I 71 37 := (s7 37 (by decide) (by decide)).trans (hM71 37 (by decide))
    have k73 : ∀ j, j < 5 → I 2 j = sv0 M 89 (0 + j) := fun j hj => by rw [sv0_73 hj, hMo 73 (by decide) (by decide) (by decide), E1]
    have k74 : ∀ j, j < 5 → I 3 j = sv0 M 89 (5 + j) := fun j hj => by rw [sv0_74 hj, hMo 74 (by decide) (by decide) (by decide), E2]
    have k75 : ∀ j, j < 25 → I 4 j = sv0 M 89 (10 + j) := fun j hj => by rw [sv0_75 hj, hMo 75 (by decide) (by decide) (by decide), E3]
    have k76 : ∀ j, j < 25 → I 5 j = sv0 M 89 (35 + j) := fun j hj => by rw [sv0_76 hj, hMo 76 (by decide) (by decide) (by decide), E4]
    have k77 : ∀ j, j < 5 → I 8 j = sv0 M 89 (60 + j) := fun j hj => by rw [sv0_77 hj, hMo 77 (by decide) (by decide) (by decide), E5]
    have k78 : ∀ j, j < 5 → I 9 j = sv0 M 89 (65 + j) := fun j hj => by rw [sv0_78 hj, hMo 78 (by decide) (by decide) (by decide), E6]
    have k79 : ∀ j, j < 5 → I 10 j = sv0 M 89 (70 + j) := fun j hj => by rw [sv0_79 hj, hMo 79 (by decide) (by decide) (by decide), E7]
    have k80 : ∀ j, j < 5 → I 11 j = sv0 M 89 (75 + j) := fun j hj => by rw [sv0_80 hj, hMo 80 (by decide) (by decide) (by decide), E8]
    have k81 : ∀ j, j < 4 → I 13 j = sv0 M 89 (80 + j) := fun j hj => by rw [sv0_81 hj, hMo 81 (by decide) (by decide) (by decide), E9]
    have k82 : ∀ j, j < 4 → I 14 j = sv0 M 89 (84 + j) := fun j hj => by rw [sv0_82 hj, hMo 82 (by decide) (by decide) (by decide), E10]
    have k83 : ∀ j, j < 4 → I 15 j = sv0 M 89 (88 + j) := fun j hj => by rw [sv0_83 hj, hMo 83 (by decide) (by decide) (by decide), E11]
    have k84 : ∀ j, j < 4 → I 16 j = sv0 M 89 (92 + j) := fun j hj => by rw [sv0_84 hj, hMo 84 (by decide) (by decide) (by decide), E12]
    have k_13 : I 1 0 = sv0 M 89 96 := by rw [sv0_f13, hM71 13 (by decide), E13]
    have k_14 : I 7 0 = sv0 M 89 97 := by rw [sv0_f14, hM71 14 (by decide), E14]
    have k_15 : I 12 0 = sv0 M 89 98 := by rw [sv0_f15, hM71 15 (by decide), E15]
    have k_16 : I 1 1 = sv0 M 89 99 := by rw [sv0_f16, hM71 16 (by decide), E16]
    have k_17 : I 6 0 = sv0 M 89 100 := by rw [sv0_f17, hM71 17 (by decide), E17]
    have k_18 : I 6 1 = sv0 M 89 101 := by rw [sv0_f18, hM71 18 (by decide), E18]
    have k_19 : I 6 2 = sv0 M 89 102 := by rw [sv0_f19, hM71 19 (by decide), E19]
    have k_20 : I 1 2 = sv0 M 89 103 := by rw [sv0_f20, hM71 20 (by decide), E20]
    have w03 : sv0 M 0 3 = 1 := by rw [so 0 (by decide) (by decide), ← hM]; rfl
    have u29 : sv0 M 71 29 = 1 := by rw [s7 29 (by decide) (by decide), ← hM]; rfl
    have hu := okH.mono hH (Nat.le_succ q)
    refine ⟨hz2, ⟨n, c, m, ?_⟩, ?_, ?_, ?_⟩
    · unfold H1
      rw [w1, w2, w3, w4, w5, w6, w7, w8, w9, w10, w11, w12, w13, w14, w15, w16]
      exact hu
    · unfold EQh
      rw [w1, w2, w3, w4, w5, w6, w7, w8, w9, w10, w11, w12, w13, w14, w15, w16, w73, w74, w75, w76, w77, w78, w79, w80, w81, w82, w83, w84, u13, u14, u15, u16, u17, u18, u19, u20]
      exact hE
    · unfold EQk
      rw [w03, u29]
      refine ⟨rfl, Or.inr ⟨rfl, ⟨n, c, m, ?_⟩, ?_⟩⟩
      · unfold H17
        rw [v18, v19, v20, v21, v24, v25, v26, v27, v29, v30, v31, v32, v17_0, v17_1, v17_2, v22_0, v22_1, v22_2, v23_0, v28_0]
        exact hu
      · unfold KQ
        rw [v18, v19, v20, v21, v24, v25, v26, v27, v29, v30, v31, v32, v17_0, v17_1, v17_2, v22_0, v22_1, v22_2, v23_0, v28_0]
        exact ⟨k73, k74, k75, k76, k77, k78, k79, k80, k81, k82, k83, k84, k_13, k_14, k_15, k_16, k_17, k_18, k_19, k_20⟩
    · unfold EQo
      rw [w49, w50, w51, w52, w70, w72, w85, w93, u25, u37]
      exact hO
theorem op_restore : OPi X 107 146 [] := by
  refine op_of fun q I L hq hI => ?_
  obtain ⟨hz, hHH, hE, ⟨k1, hK⟩, hO⟩ := id hI
  rcases hK with h0 | ⟨h1, ⟨n, c, m, hH⟩, hKQ⟩
  · refine Or.inl ⟨-3, rf3, ?_, fun J hJ => ?_⟩
    · simp only [e107, a107_0, a107_1, a107_4, a107_7, a107_8, a107_10, a107_13, a107_14, a107_15, a107_18, a107_19, a107_22, a107_25, a107_26, a107_29, a107_32, qgR_some, qiaR_1, qlaR_2, qlnR_1, qlnR_2, qcpR_1, qcR_some, qpsh_v, qpsh_n, qcS_0, qcS_i, qcS_r, qcS_l, qst1_0_x, qst2_0_x, qst1_1_n, qst2_1_n, qst1_1_i, qst2_1_i, qst1_1_r, qst2_1_r, qst1_2_n, qst2_2_n, qst1_2_i, qst2_2_i, qst1_2_r, qst2_2_r, qst1_3_n, qst2_3_n, qst1_3_i, qst2_3_i, qst1_3_r, qst2_3_r, qst1_4_n, qst2_4_n, qst1_4_i, qst2_4_i, qst1_4_r, qst2_4_r, qst1_5_n, qst2_5_n, qst1_5_i, qst2_5_i, qst1_5_r, qst2_5_r, qst1_6_n, qst2_6_n, qst1_6_i, qst2_6_i, qst1_6_r, qst2_6_r, qst1_7_n, qst2_7_n, qst1_7_i, qst2_7_i, qst1_7_r, qst2_7_r, qst1_8_n, qst2_8_n, qst1_8_i, qst2_8_i, qst1_8_r, qst2_8_r, qst1_9_n, qst2_9_n, qst1_9_i, qst2_9_i, qst1_9_r, qst2_9_r, qst1_10_n, qst2_10_n, qst1_10_i, qst2_10_i, qst1_10_r, qst2_10_r, qst1_11_n, qst2_11_n, qst1_11_i, qst2_11_i, qst1_11_r, qst2_11_r, qswE_0, qswE_s, u2_row, z2_row, n32_0_1, n32_0_2, n32_0_3, n32_0_4, n32_0_5, n32_0_6, n32_0_7, n32_0_8, n32_1_0, n32_1_2, n32_1_3, n32_1_4, n32_1_5, n32_1_6, n32_1_7, n32_1_8, n32_2_0, n32_2_1, n32_2_3, n32_2_4, n32_2_5, n32_2_6, n32_2_7, n32_2_8, n32_3_0, n32_3_1, n32_3_2, n32_3_4, n32_3_5, n32_3_6, n32_3_7, n32_3_8, n32_4_0, n32_4_1, n32_4_2, n32_4_3, n32_4_5, n32_4_6, n32_4_7, n32_4_8, n32_5_0, n32_5_1, n32_5_2, n32_5_3, n32_5_4, n32_5_6, n32_5_7, n32_5_8, n32_6_0, n32_6_1, n32_6_2, n32_6_3, n32_6_4, n32_6_5, n32_6_7, n32_6_8, n32_7_0, n32_7_1, n32_7_2, n32_7_3, n32_7_4, n32_7_5, n32_7_6, n32_7_8, n32_8_0, n32_8_1, n32_8_2, n32_8_3, n32_8_4, n32_8_5, n32_8_6, n32_8_7, n32_m1_0, n32_m1_1, n32_m1_2, n32_m2_0, n32_m2_1, n32_m2_2, n32_m3_0, n32_m3_1, n32_m3_2, n32_m4_0, n32_m4_1, n32_m4_2, n32_m6_0, n32_m6_1, n32_m6_2, n32_m9_0, n32_m9_1, n32_m9_2, true_or, or_true, if_true, if_false, eq_self, and_true, true_and, and_self, reduceCtorEq, not_true_eq_false, not_false_eq_true, or_self, false_or, or_false, false_and, and_false, Option.some.injEq, Prod.mk.injEq, Nat.reduceAdd, Nat.reduceMul, Nat.reduceSub, Nat.reduceLT, Nat.reduceEqDiff, Nat.reduceLeDiff, Int32.reduceAdd, Int32.reduceMul, Int32.reduceSub, Int32.reduceLT, Int32.reduceLE, Int32.reduceOfNat, Int32.reduceToNatClampNeg, reduceIte, Nat.zero_le, Nat.reduceDiv, qhk_0, qhk_1, qhk_2, qhk_3, qhk_4, qhk_5, qhk_6, qhk_7, qhk_8, qhk_9, qhk_10, qhk_11, qhk_12, qhk_13, qhk_14, qhk_15, qhk_16, qhk_17, qhk_18, qhk_19, qhk_20, qhk_21, qhk_22, qhk_23, qhk_24, qhk_25, qhk_26, qhk_27, qhk_28, qhk_29, qhk_30, qhk_31, qhk_32, qhk_33, qhk_34, qhk_35, qhk_36, qhk_37, qhk_38, qhk_39, qhk_40, qhk_41, qhk_42, qhk_43, qhk_44, qhk_45, qhk_46, qhk_47, qhk_48, qhk_49, qhk_50, qhk_51, qhk_52, qhk_53, qhk_54, qhk_55, qhk_56, qhk_57, qhk_58, qhk_59, qhk_60, qhk_61, qhk_62, qhk_63, qhk_64, qhk_65, qhk_66, qhk_67, qhk_68, qhk_69, qhk_70, qhk_71, qhk_72, qhk_73, qhk_74, qhk_75, qhk_76, qhk_77, qhk_78, qhk_79, qhk_80, qhk_81, qhk_82, qhk_83, qhk_84, qhk_85, qhk_86, qhk_87, qhk_88, qhk_89, qhk_90, qhk_91, qhk_92, qhk_93, qhk_94, qhk_95, qhk_96, pp_0_0, pp_0_1, pp_0_2, pp_0_4, pp_0_5, pp_0_6, pp_0_7, pp_0_8, pp_0_9, pp_1_3, pp_1_4, pp_1_5, pp_1_6, pp_1_7, pp_1_8, pp_1_9, pp_7_1, pp_7_2, pp_7_3, pp_7_4, pp_12_1, pp_12_2, pp_12_3, pp_12_4, pp_17_3, pp_17_4, pp_17_5, pp_17_6, pp_17_7, pp_17_8, pp_17_9, pp_23_1, pp_23_2, pp_23_3, pp_23_4, pp_28_1, pp_28_2, pp_28_3, pp_28_4, pp_33_3, pp_33_4, pp_33_5, pp_33_6, pp_33_7, pp_33_8, pp_33_9, pp_39_1, pp_39_2, pp_39_3, pp_39_4, pp_44_1, pp_44_2, pp_44_3, pp_44_4, pp_49_0, pp_51_0, pp_53_0, pp_53_1, pp_53_2, pp_58_0, pp_58_1, pp_58_4, pp_58_5, pp_58_6, pp_58_7, pp_61_0, pp_61_1, pp_61_2, pp_65_0, pp_68_0, pp_71_0, pp_71_1, pp_71_2, pp_71_3, pp_71_4, pp_71_5, pp_71_6, pp_71_7, pp_71_8, pp_71_9, pp_71_10, pp_71_11, pp_71_12, pp_71_21, pp_71_22, pp_71_23, pp_71_24, pp_71_28, pp_71_32, pp_71_33, pp_71_34, pp_71_35, pp_71_36, pp_71_39, pp_71_40, h0, c109 rf3]
    · simp only [e146, a146_0, a146_1, a146_4, a146_7, a146_8, a146_10, a146_13, a146_14, a146_15, a146_16, a146_17, a146_20, a146_21, a146_24, qgR_some, qiaR_1, qlaR_2, qlnR_1, qlnR_2, qcpR_1, qcR_some, qpsh_v, qpsh_n, qcS_0, qcS_i, qcS_r, qcS_l, qst1_0_x, qst2_0_x, qst1_1_n, qst2_1_n, qst1_1_i, qst2_1_i, qst1_1_r, qst2_1_r, qst1_2_n, qst2_2_n, qst1_2_i, qst2_2_i, qst1_2_r, qst2_2_r, qst1_3_n, qst2_3_n, qst1_3_i, qst2_3_i, qst1_3_r, qst2_3_r, qst1_4_n, qst2_4_n, qst1_4_i, qst2_4_i, qst1_4_r, qst2_4_r, qst1_5_n, qst2_5_n, qst1_5_i, qst2_5_i, qst1_5_r, qst2_5_r, qst1_6_n, qst2_6_n, qst1_6_i, qst2_6_i, qst1_6_r, qst2_6_r, qst1_7_n, qst2_7_n, qst1_7_i, qst2_7_i, qst1_7_r, qst2_7_r, qst1_8_n, qst2_8_n, qst1_8_i, qst2_8_i, qst1_8_r, qst2_8_r, qst1_9_n, qst2_9_n, qst1_9_i, qst2_9_i, qst1_9_r, qst2_9_r, qst1_10_n, qst2_10_n, qst1_10_i, qst2_10_i, qst1_10_r, qst2_10_r, qst1_11_n, qst2_11_n, qst1_11_i, qst2_11_i, qst1_11_r, qst2_11_r, qswE_0, qswE_s, u2_row, z2_row, n32_0_1, n32_0_2, n32_0_3, n32_0_4, n32_0_5, n32_0_6, n32_0_7, n32_0_8, n32_1_0, n32_1_2, n32_1_3, n32_1_4, n32_1_5, n32_1_6, n32_1_7, n32_1_8, n32_2_0, n32_2_1, n32_2_3, n32_2_4, n32_2_5, n32_2_6, n32_2_7, n32_2_8, n32_3_0, n32_3_1, n32_3_2, n32_3_4, n32_3_5, n32_3_6, n32_3_7, n32_3_8, n32_4_0, n32_4_1, n32_4_2, n32_4_3, n32_4_5, n32_4_6, n32_4_7, n32_4_8, n32_5_0, n32_5_1, n32_5_2, n32_5_3, n32_5_4, n32_5_6, n32_5_7, n32_5_8, n32_6_0, n32_6_1, n32_6_2, n32_6_3, n32_6_4, n32_6_5, n32_6_7, n32_6_8, n32_7_0, n32_7_1, n32_7_2, n32_7_3, n32_7_4, n32_7_5, n32_7_6, n32_7_8, n32_8_0, n32_8_1, n32_8_2, n32_8_3, n32_8_4, n32_8_5, n32_8_6, n32_8_7, n32_m1_0, n32_m1_1, n32_m1_2, n32_m2_0, n32_m2_1, n32_m2_2, n32_m3_0, n32_m3_1, n32_m3_2, n32_m4_0, n32_m4_1, n32_m4_2, n32_m6_0, n32_m6_1, n32_m6_2, n32_m9_0, n32_m9_1, n32_m9_2, true_or, or_true, if_true, if_false, eq_self, and_true, true_and, and_self, reduceCtorEq, not_true_eq_false, not_false_eq_true, or_self, false_or, or_false, false_and, and_false, Option.some.injEq, Prod.mk.injEq, Nat.reduceAdd, Nat.reduceMul, Nat.reduceSub, Nat.reduceLT, Nat.reduceEqDiff, Nat.reduceLeDiff, Int32.reduceAdd, Int32.reduceMul, Int32.reduceSub, Int32.reduceLT, Int32.reduceLE, Int32.reduceOfNat, Int32.reduceToNatClampNeg, reduceIte, Nat.zero_le, Nat.reduceDiv, qhk_0, qhk_1, qhk_2, qhk_3, qhk_4, qhk_5, qhk_6, qhk_7, qhk_8, qhk_9, qhk_10, qhk_11, qhk_12, qhk_13, qhk_14, qhk_15, qhk_16, qhk_17, qhk_18, qhk_19, qhk_20, qhk_21, qhk_22, qhk_23, qhk_24, qhk_25, qhk_26, qhk_27, qhk_28, qhk_29, qhk_30, qhk_31, qhk_32, qhk_33, qhk_34, qhk_35, qhk_36, qhk_37, qhk_38, qhk_39, qhk_40, qhk_41, qhk_42, qhk_43, qhk_44, qhk_45, qhk_46, qhk_47, qhk_48, qhk_49, qhk_50, qhk_51, qhk_52, qhk_53, qhk_54, qhk_55, qhk_56, qhk_57, qhk_58, qhk_59, qhk_60, qhk_61, qhk_62, qhk_63, qhk_64, qhk_65, qhk_66, qhk_67, qhk_68, qhk_69, qhk_70, qhk_71, qhk_72, qhk_73, qhk_74, qhk_75, qhk_76, qhk_77, qhk_78, qhk_79, qhk_80, qhk_81, qhk_82, qhk_83, qhk_84, qhk_85, qhk_86, qhk_87, qhk_88, qhk_89, qhk_90, qhk_91, qhk_92, qhk_93, qhk_94, qhk_95, qhk_96, pp_0_0, pp_0_1, pp_0_2, pp_0_4, pp_0_5, pp_0_6, pp_0_7, pp_0_8, pp_0_9, pp_1_3, pp_1_4, pp_1_5, pp_1_6, pp_1_7, pp_1_8, pp_1_9, pp_7_1, pp_7_2, pp_7_3, pp_7_4, pp_12_1, pp_12_2, pp_12_3, pp_12_4, pp_17_3, pp_17_4, pp_17_5, pp_17_6, pp_17_7, pp_17_8, pp_17_9, pp_23_1, pp_23_2, pp_23_3, pp_23_4, pp_28_1, pp_28_2, pp_28_3, pp_28_4, pp_33_3, pp_33_4, pp_33_5, pp_33_6, pp_33_7, pp_33_8, pp_33_9, pp_39_1, pp_39_2, pp_39_3, pp_39_4, pp_44_1, pp_44_2, pp_44_3, pp_44_4, pp_49_0, pp_51_0, pp_53_0, pp_53_1, pp_53_2, pp_58_0, pp_58_1, pp_58_4, pp_58_5, pp_58_6, pp_58_7, pp_61_0, pp_61_1, pp_61_2, pp_65_0, pp_68_0, pp_71_0, pp_71_1, pp_71_2, pp_71_3, pp_71_4, pp_71_5, pp_71_6, pp_71_7, pp_71_8, pp_71_9, pp_71_10, pp_71_11, pp_71_12, pp_71_21, pp_71_22, pp_71_23, pp_71_24, pp_71_28, pp_71_32, pp_71_33, pp_71_34, pp_71_35, pp_71_36, pp_71_39, pp_71_40, hJ, ← k1, h0, c121 rf3]
  · obtain ⟨K73, K74, K75, K76, K77, K78, K79, K80, K81, K82, K83, K84, K_13, K_14, K_15, K_16, K_17, K_18, K_19, K_20⟩ := id hKQ
    have e29 : cp_1_17 I 71 29 = 1 := k1.symm.trans h1
    refine Or.inr ⟨I 17 1, cp_1_17 I, L, tk0 (cp_1_17 I), L, ?_, ?_, fun hz2 => ?_⟩
    · simp only [e107, a107_0, a107_1, a107_4, a107_7, a107_8, a107_10, a107_13, a107_14, a107_15, a107_18, a107_19, a107_22, a107_25, a107_26, a107_29, a107_32, qgR_some, qiaR_1, qlaR_2, qlnR_1, qlnR_2, qcpR_1, qcR_some, qpsh_v, qpsh_n, qcS_0, qcS_i, qcS_r, qcS_l, qst1_0_x, qst2_0_x, qst1_1_n, qst2_1_n, qst1_1_i, qst2_1_i, qst1_1_r, qst2_1_r, qst1_2_n, qst2_2_n, qst1_2_i, qst2_2_i, qst1_2_r, qst2_2_r, qst1_3_n, qst2_3_n, qst1_3_i, qst2_3_i, qst1_3_r, qst2_3_r, qst1_4_n, qst2_4_n, qst1_4_i, qst2_4_i, qst1_4_r, qst2_4_r, qst1_5_n, qst2_5_n, qst1_5_i, qst2_5_i, qst1_5_r, qst2_5_r, qst1_6_n, qst2_6_n, qst1_6_i, qst2_6_i, qst1_6_r, qst2_6_r, qst1_7_n, qst2_7_n, qst1_7_i, qst2_7_i, qst1_7_r, qst2_7_r, qst1_8_n, qst2_8_n, qst1_8_i, qst2_8_i, qst1_8_r, qst2_8_r, qst1_9_n, qst2_9_n, qst1_9_i, qst2_9_i, qst1_9_r, qst2_9_r, qst1_10_n, qst2_10_n, qst1_10_i, qst2_10_i, qst1_10_r, qst2_10_r, qst1_11_n, qst2_11_n, qst1_11_i, qst2_11_i, qst1_11_r, qst2_11_r, qswE_0, qswE_s, u2_row, z2_row, n32_0_1, n32_0_2, n32_0_3, n32_0_4, n32_0_5, n32_0_6, n32_0_7, n32_0_8, n32_1_0, n32_1_2, n32_1_3, n32_1_4, n32_1_5, n32_1_6, n32_1_7, n32_1_8, n32_2_0, n32_2_1, n32_2_3, n32_2_4, n32_2_5, n32_2_6, n32_2_7, n32_2_8, n32_3_0, n32_3_1, n32_3_2, n32_3_4, n32_3_5, n32_3_6, n32_3_7, n32_3_8, n32_4_0, n32_4_1, n32_4_2, n32_4_3, n32_4_5, n32_4_6, n32_4_7, n32_4_8, n32_5_0, n32_5_1, n32_5_2, n32_5_3, n32_5_4, n32_5_6, n32_5_7, n32_5_8, n32_6_0, n32_6_1, n32_6_2, n32_6_3, n32_6_4, n32_6_5, n32_6_7, n32_6_8, n32_7_0, n32_7_1, n32_7_2, n32_7_3, n32_7_4, n32_7_5, n32_7_6, n32_7_8, n32_8_0, n32_8_1, n32_8_2, n32_8_3, n32_8_4, n32_8_5, n32_8_6, n32_8_7, n32_m1_0, n32_m1_1, n32_m1_2, n32_m2_0, n32_m2_1, n32_m2_2, n32_m3_0, n32_m3_1, n32_m3_2, n32_m4_0, n32_m4_1, n32_m4_2, n32_m6_0, n32_m6_1, n32_m6_2, n32_m9_0, n32_m9_1, n32_m9_2, true_or, or_true, if_true, if_false, eq_self, and_true, true_and, and_self, reduceCtorEq, not_true_eq_false, not_false_eq_true, or_self, false_or, or_false, false_and, and_false, Option.some.injEq, Prod.mk.injEq, Nat.reduceAdd, Nat.reduceMul, Nat.reduceSub, Nat.reduceLT, Nat.reduceEqDiff, Nat.reduceLeDiff, Int32.reduceAdd, Int32.reduceMul, Int32.reduceSub, Int32.reduceLT, Int32.reduceLE, Int32.reduceOfNat, Int32.reduceToNatClampNeg, reduceIte, Nat.zero_le, Nat.reduceDiv, qhk_0, qhk_1, qhk_2, qhk_3, qhk_4, qhk_5, qhk_6, qhk_7, qhk_8, qhk_9, qhk_10, qhk_11, qhk_12, qhk_13, qhk_14, qhk_15, qhk_16, qhk_17, qhk_18, qhk_19, qhk_20, qhk_21, qhk_22, qhk_23, qhk_24, qhk_25, qhk_26, qhk_27, qhk_28, qhk_29, qhk_30, qhk_31, qhk_32, qhk_33, qhk_34, qhk_35, qhk_36, qhk_37, qhk_38, qhk_39, qhk_40, qhk_41, qhk_42, qhk_43, qhk_44, qhk_45, qhk_46, qhk_47, qhk_48, qhk_49, qhk_50, qhk_51, qhk_52, qhk_53, qhk_54, qhk_55, qhk_56, qhk_57, qhk_58, qhk_59, qhk_60, qhk_61, qhk_62, qhk_63, qhk_64, qhk_65, qhk_66, qhk_67, qhk_68, qhk_69, qhk_70, qhk_71, qhk_72, qhk_73, qhk_74, qhk_75, qhk_76, qhk_77, qhk_78, qhk_79, qhk_80, qhk_81, qhk_82, qhk_83, qhk_84, qhk_85, qhk_86, qhk_87, qhk_88, qhk_89, qhk_90, qhk_91, qhk_92, qhk_93, qhk_94, qhk_95, qhk_96, pp_0_0, pp_0_1, pp_0_2, pp_0_4, pp_0_5, pp_0_6, pp_0_7, pp_0_8, pp_0_9, pp_1_3, pp_1_4, pp_1_5, pp_1_6, pp_1_7, pp_1_8, pp_1_9, pp_7_1, pp_7_2, pp_7_3, pp_7_4, pp_12_1, pp_12_2, pp_12_3, pp_12_4, pp_17_3, pp_17_4, pp_17_5, pp_17_6, pp_17_7, pp_17_8, pp_17_9, pp_23_1, pp_23_2, pp_23_3, pp_23_4, pp_28_1, pp_28_2, pp_28_3, pp_28_4, pp_33_3, pp_33_4, pp_33_5, pp_33_6, pp_33_7, pp_33_8, pp_33_9, pp_39_1, pp_39_2, pp_39_3, pp_39_4, pp_44_1, pp_44_2, pp_44_3, pp_44_4, pp_49_0, pp_51_0, pp_53_0, pp_53_1, pp_53_2, pp_58_0, pp_58_1, pp_58_4, pp_58_5, pp_58_6, pp_58_7, pp_61_0, pp_61_1, pp_61_2, pp_65_0, pp_68_0, pp_71_0, pp_71_1, pp_71_2, pp_71_3, pp_71_4, pp_71_5, pp_71_6, pp_71_7, pp_71_8, pp_71_9, pp_71_10, pp_71_11, pp_71_12, pp_71_21, pp_71_22, pp_71_23, pp_71_24, pp_71_28, pp_71_32, pp_71_33, pp_71_34, pp_71_35, pp_71_36, pp_71_39, pp_71_40, c21_1_17, h1]
      rfl
    · simp only [e146, a146_0, a146_1, a146_4, a146_7, a146_8, a146_10, a146_13, a146_14, a146_15, a146_16, a146_17, a146_20, a146_21, a146_24, qgR_some, qiaR_1, qlaR_2, qlnR_1, qlnR_2, qcpR_1, qcR_some, qpsh_v, qpsh_n, qcS_0, qcS_i, qcS_r, qcS_l, qst1_0_x, qst2_0_x, qst1_1_n, qst2_1_n, qst1_1_i, qst2_1_i, qst1_1_r, qst2_1_r, qst1_2_n, qst2_2_n, qst1_2_i, qst2_2_i, qst1_2_r, qst2_2_r, qst1_3_n, qst2_3_n, qst1_3_i, qst2_3_i, qst1_3_r, qst2_3_r, qst1_4_n, qst2_4_n, qst1_4_i, qst2_4_i, qst1_4_r, qst2_4_r, qst1_5_n, qst2_5_n, qst1_5_i, qst2_5_i, qst1_5_r, qst2_5_r, qst1_6_n, qst2_6_n, qst1_6_i, qst2_6_i, qst1_6_r, qst2_6_r, qst1_7_n, qst2_7_n, qst1_7_i, qst2_7_i, qst1_7_r, qst2_7_r, qst1_8_n, qst2_8_n, qst1_8_i, qst2_8_i, qst1_8_r, qst2_8_r, qst1_9_n, qst2_9_n, qst1_9_i, qst2_9_i, qst1_9_r, qst2_9_r, qst1_10_n, qst2_10_n, qst1_10_i, qst2_10_i, qst1_10_r, qst2_10_r, qst1_11_n, qst2_11_n, qst1_11_i, qst2_11_i, qst1_11_r, qst2_11_r, qswE_0, qswE_s, u2_row, z2_row, n32_0_1, n32_0_2, n32_0_3, n32_0_4, n32_0_5, n32_0_6, n32_0_7, n32_0_8, n32_1_0, n32_1_2, n32_1_3, n32_1_4, n32_1_5, n32_1_6, n32_1_7, n32_1_8, n32_2_0, n32_2_1, n32_2_3, n32_2_4, n32_2_5, n32_2_6, n32_2_7, n32_2_8, n32_3_0, n32_3_1, n32_3_2, n32_3_4, n32_3_5, n32_3_6, n32_3_7, n32_3_8, n32_4_0, n32_4_1, n32_4_2, n32_4_3, n32_4_5, n32_4_6, n32_4_7, n32_4_8, n32_5_0, n32_5_1, n32_5_2, n32_5_3, n32_5_4, n32_5_6, n32_5_7, n32_5_8, n32_6_0, n32_6_1, n32_6_2, n32_6_3, n32_6_4, n32_6_5, n32_6_7, n32_6_8, n32_7_0, n32_7_1, n32_7_2, n32_7_3, n32_7_4, n32_7_5, n32_7_6, n32_7_8, n32_8_0, n32_8_1, n32_8_2, n32_8_3, n32_8_4, n32_8_5, n32_8_6, n32_8_7, n32_m1_0, n32_m1_1, n32_m1_2, n32_m2_0, n32_m2_1, n32_m2_2, n32_m3_0, n32_m3_1, n32_m3_2, n32_m4_0, n32_m4_1, n32_m4_2, n32_m6_0, n32_m6_1, n32_m6_2, n32_m9_0, n32_m9_1, n32_m9_2, true_or, or_true, if_true, if_false, eq_self, and_true, true_and, and_self, reduceCtorEq, not_true_eq_false, not_false_eq_true, or_self, false_or, or_false, false_and, and_false, Option.some.injEq, Prod.mk.injEq, Nat.reduceAdd, Nat.reduceMul, Nat.reduceSub, Nat.reduceLT, Nat.reduceEqDiff, Nat.reduceLeDiff, Int32.reduceAdd, Int32.reduceMul, Int32.reduceSub, Int32.reduceLT, Int32.reduceLE, Int32.reduceOfNat, Int32.reduceToNatClampNeg, reduceIte, Nat.zero_le, Nat.reduceDiv, qhk_0, qhk_1, qhk_2, qhk_3, qhk_4, qhk_5, qhk_6, qhk_7, qhk_8, qhk_9, qhk_10, qhk_11, qhk_12, qhk_13, qhk_14, qhk_15, qhk_16, qhk_17, qhk_18, qhk_19, qhk_20, qhk_21, qhk_22, qhk_23, qhk_24, qhk_25, qhk_26, qhk_27, qhk_28, qhk_29, qhk_30, qhk_31, qhk_32, qhk_33, qhk_34, qhk_35, qhk_36, qhk_37, qhk_38, qhk_39, qhk_40, qhk_41, qhk_42, qhk_43, qhk_44, qhk_45, qhk_46, qhk_47, qhk_48, qhk_49, qhk_50, qhk_51, qhk_52, qhk_53, qhk_54, qhk_55, qhk_56, qhk_57, qhk_58, qhk_59, qhk_60, qhk_61, qhk_62, qhk_63, qhk_64, qhk_65, qhk_66, qhk_67, qhk_68, qhk_69, qhk_70, qhk_71, qhk_72, qhk_73, qhk_74, qhk_75, qhk_76, qhk_77, qhk_78, qhk_79, qhk_80, qhk_81, qhk_82, qhk_83, qhk_84, qhk_85, qhk_86, qhk_87, qhk_88, qhk_89, qhk_90, qhk_91, qhk_92, qhk_93, qhk_94, qhk_95, qhk_96, pp_0_0, pp_0_1, pp_0_2, pp_0_4, pp_0_5, pp_0_6, pp_0_7, pp_0_8, pp_0_9, pp_1_3, pp_1_4, pp_1_5, pp_1_6, pp_1_7, pp_1_8, pp_1_9, pp_7_1, pp_7_2, pp_7_3, pp_7_4, pp_12_1, pp_12_2, pp_12_3, pp_12_4, pp_17_3, pp_17_4, pp_17_5, pp_17_6, pp_17_7, pp_17_8, pp_17_9, pp_23_1, pp_23_2, pp_23_3, pp_23_4, pp_28_1, pp_28_2, pp_28_3, pp_28_4, pp_33_3, pp_33_4, pp_33_5, pp_33_6, pp_33_7, pp_33_8, pp_33_9, pp_39_1, pp_39_2, pp_39_3, pp_39_4, pp_44_1, pp_44_2, pp_44_3, pp_44_4, pp_49_0, pp_51_0, pp_53_0, pp_53_1, pp_53_2, pp_58_0, pp_58_1, pp_58_4, pp_58_5, pp_58_6, pp_58_7, pp_61_0, pp_61_1, pp_61_2, pp_65_0, pp_68_0, pp_71_0, pp_71_1, pp_71_2, pp_71_3, pp_71_4, pp_71_5, pp_71_6, pp_71_7, pp_71_8, pp_71_9, pp_71_10, pp_71_11, pp_71_12, pp_71_21, pp_71_22, pp_71_23, pp_71_24, pp_71_28, pp_71_32, pp_71_33, pp_71_34, pp_71_35, pp_71_36, pp_71_39, pp_71_40, c144_0r, e29]
      rw [tk0_f16, K_16]
      rfl
    · generalize hM : cp_1_17 I = M at hz2
      have hMo : ∀ b, b < 1 ∨ 16 < b → M b = I b := fun b h1 => by rw [← hM]; exact cp_1_17_off (by omega)
      have to : ∀ b, b ≠ 71 → (b < 73 ∨ 84 < b) → tk0 M b = M b := fun b => tk0_off
      have w0 : tk0 M 0 = I 0 := (to 0 (by decide) (by decide)).trans (hMo 0 (by decide))
      have w17 : tk0 M 17 = I 17 := (to 17 (by decide) (by decide)).trans (hMo 17 (by decide))
      have w18 : tk0 M 18 = I 18 := (to 18 (by decide) (by decide)).trans (hMo 18 (by decide))
      have w19 : tk0 M 19 = I 19 := (to 19 (by decide) (by decide)).trans (hMo 19 (by decide))
      have w20 : tk0 M 20 = I 20 := (to 20 (by decide) (by decide)).trans (hMo 20 (by decide))
      have w21 : tk0 M 21 = I 21 := (to 21 (by decide) (by decide)).trans (hMo 21 (by decide))
      have w22 : tk0 M 22 = I 22 := (to 22 (by decide) (by decide)).trans (hMo 22 (by decide))
      have w23 : tk0 M 23 = I 23 := (to 23 (by decide) (by decide)).trans (hMo 23 (by decide))
      have w24 : tk0 M 24 = I 24 := (to 24 (by decide) (by decide)).trans (hMo 24 (by decide))
      have w25 : tk0 M 25 = I 25 := (to 25 (by decide) (by decide)).trans (hMo 25 (by decide))
      have w26 : tk0 M 26 = I 26 := (to 26 (by decide) (by decide)).trans (hMo 26 (by decide))
      have w27 : tk0 M 27 = I 27 := (to 27 (by decide) (by decide)).trans (hMo 27 (by decide))
      have w28 : tk0 M 28 = I 28 := (to 28 (by decide) (by decide)).trans (hMo 28 (by decide))
      have w29 : tk0 M 29 = I 29 := (to 29 (by decide) (by decide)).trans (hMo 29 (by decide))
      have w30 : tk0 M 30 = I 30 := (to 30 (by decide) (by decide)).trans (hMo 30 (by decide))
      have w31 : tk0 M 31 = I 31 := (to 31 (by decide) (by decide)).trans (hMo 31 (by decide))
      have w32 : tk0 M 32 = I 32 := (to 32 (by decide) (by decide)).trans (hMo 32 (by decide))
      have w49 : tk0 M 49 = I 49 := (to 49 (by decide) (by decide)).trans (hMo 49 (by decide))
      have w50 : tk0 M 50 = I 50 := (to 50 (by decide) (by decide)).trans (hMo 50 (by decide))
      have w51 : tk0 M 51 = I 51 := (to 51 (by decide) (by decide)).trans (hMo 51 (by decide))
      have w52 : tk0 M 52 = I 52 := (to 52 (by decide) (by decide)).trans (hMo 52 (by decide))
      have w70 : tk0 M 70 = I 70 := (to 70 (by decide) (by decide)).trans (hMo 70 (by decide))
      have w72 : tk0 M 72 = I 72 := (to 72 (by decide) (by decide)).trans (hMo 72 (by decide))
      have w85 : tk0 M 85 = I 85 := (to 85 (by decide) (by decide)).trans (hMo 85 (by decide))
      have w89 : tk0 M 89 = I 89 := (to 89 (by decide) (by decide)).trans (hMo 89 (by decide))
      have w93 : tk0 M 93 = I 93 := (to 93 (by decide) (by decide)).trans (hMo 93 (by decide))
      have u25 : tk0 M 71 25 = I 71 25 := (tk0_71 (by decide) (by decide) (by decide)).trans (congrFun (hMo 71 (by decide)) 25)
      have u29 : tk0 M 71 29 = I 71 29 := (tk0_71 (by decide) (by decide) (by decide)).trans (congrFun (hMo 71 (by decide)) 29)
      have u37 : tk0 M 71 37 = I 71 37 := (tk0_71 (by decide) (by decide) (by decide)).trans (congrFun (hMo 71 (by decide)) 37)
      have v2 : tk0 M 2 = I 18 := by rw [to 2 (by decide) (by decide), ← hM]; rfl
      have v3 : tk0 M 3 = I 19 := by rw [to 3 (by decide) (by decide), ← hM]; rfl
      have v4 : tk0 M 4 = I 20 := by rw [to 4 (by decide) (by decide), ← hM]; rfl
      have v5 : tk0 M 5 = I 21 := by rw [to 5 (by decide) (by decide), ← hM]; rfl
      have v8 : tk0 M 8 = I 24 := by rw [to 8 (by decide) (by decide), ← hM]; rfl
      have v9 : tk0 M 9 = I 25 := by rw [to 9 (by decide) (by decide), ← hM]; rfl
      have v10 : tk0 M 10 = I 26 := by rw [to 10 (by decide) (by decide), ← hM]; rfl
      have v11 : tk0 M 11 = I 27 := by rw [to 11 (by decide) (by decide), ← hM]; rfl
      have v13 : tk0 M 13 = I 29 := by rw [to 13 (by decide) (by decide), ← hM]; rfl
      have v14 : tk0 M 14 = I 30 := by rw [to 14 (by decide) (by decide), ← hM]; rfl
      have v15 : tk0 M 15 = I 31 := by rw [to 15 (by decide) (by decide), ← hM]; rfl
      have v16 : tk0 M 16 = I 32 := by rw [to 16 (by decide) (by decide), ← hM]; rfl
      have v1_0 : tk0 M 1 0 = I 17 0 := by rw [to 1 (by decide) (by decide), ← hM]; rfl
      have v1_1 : tk0 M 1 1 = I 17 1 := by rw [to 1 (by decide) (by decide), ← hM]; rfl
      have v1_2 : tk0 M 1 2 = I 17 2 := by rw [to 1 (by decide) (by decide), ← hM]; rfl
      have v6_0 : tk0 M 6 0 = I 22 0 := by rw [to 6 (by decide) (by decide), ← hM]; rfl
      have v6_1 : tk0 M 6 1 = I 22 1 := by rw [to 6 (by decide) (by decide), ← hM]; rfl
      have v6_2 : tk0 M 6 2 = I 22 2 := by rw [to 6 (by decide) (by decide), ← hM]; rfl
      have v7_0 : tk0 M 7 0 = I 23 0 := by rw [to 7 (by decide) (by decide), ← hM]; rfl
      have v12_0 : tk0 M 12 0 = I 28 0 := by rw [to 12 (by decide) (by decide), ← hM]; rfl
      have x73 : I 18 = tk0 M 73 := by
        funext j
        by_cases hj : j < 5
        · rw [tk0_73, if_pos hj, K73 j hj, hMo 89 (by decide)]
        · rw [hz2 73 5 rfl j (by omega), hz 18 5 rfl j (by omega)]
      have x74 : I 19 = tk0 M 74 := by
        funext j
        by_cases hj : j < 5
        · rw [tk0_74, if_pos hj, K74 j hj, hMo 89 (by decide)]
        · rw [hz2 74 5 rfl j (by omega), hz 19 5 rfl j (by omega)]
      have x75 : I 20 = tk0 M 75 := by
        funext j
        by_cases hj : j < 25
        · rw [tk0_75, if_pos hj, K75 j hj, hMo 89 (by decide)]
        · rw [hz2 75 25 rfl j (by omega), hz 20 25 rfl j (by omega)]
      have x76 : I 21 = tk0 M 76 := by
        funext j
        by_cases hj : j < 25
        · rw [tk0_76, if_pos hj, K76 j hj, hMo 89 (by decide)]
        · rw [hz2 76 25 rfl j (by omega), hz 21 25 rfl j (by omega)]
      have x77 : I 24 = tk0 M 77 := by
        funext j
        by_cases hj : j < 5
        · rw [tk0_77, if_pos hj, K77 j hj, hMo 89 (by decide)]
        · rw [hz2 77 5 rfl j (by omega), hz 24 5 rfl j (by omega)]
      have x78 : I 25 = tk0 M 78 := by
        funext j
        by_cases hj : j < 5
        · rw [tk0_78, if_pos hj, K78 j hj, hMo 89 (by decide)]
        · rw [hz2 78 5 rfl j (by omega), hz 25 5 rfl j (by omega)]
      have x79 : I 26 = tk0 M 79 := by
        funext j
        by_cases hj : j < 5
        · rw [tk0_79, if_pos hj, K79 j hj, hMo 89 (by decide)]
        · rw [hz2 79 5 rfl j (by omega), hz 26 5 rfl j (by omega)]
      have x80 : I 27 = tk0 M 80 := by
        funext j
        by_cases hj : j < 5
        · rw [tk0_80, if_pos hj, K80 j hj, hMo 89 (by decide)]
        · rw [hz2 80 5 rfl j (by omega), hz 27 5 rfl j (by omega)]
      have x81 : I 29 = tk0 M 81 := by
        funext j
        by_cases hj : j < 4
        · rw [tk0_81, if_pos hj, K81 j hj, hMo 89 (by decide)]
        · rw [hz2 81 4 rfl j (by omega), hz 29 4 rfl j (by omega)]
      have x82 : I 30 = tk0 M 82 := by
        funext j
        by_cases hj : j < 4
        · rw [tk0_82, if_pos hj, K82 j hj, hMo 89 (by decide)]
        · rw [hz2 82 4 rfl j (by omega), hz 30 4 rfl j (by omega)]
      have x83 : I 31 = tk0 M 83 := by
        funext j
        by_cases hj : j < 4
        · rw [tk0_83, if_pos hj, K83 j hj, hMo 89 (by decide)]
        · rw [hz2 83 4 rfl j (by omega), hz 31 4 rfl j (by omega)]
      have x84 : I 32 = tk0 M 84 := by
        funext j
        by_cases hj : j < 4
        · rw [tk0_84, if_pos hj, K84 j hj, hMo 89 (by decide)]
        · rw [hz2 84 4 rfl j (by omega), hz 32 4 rfl j (by omega)]
      have x_13 : I 17 0 = tk0 M 71 13 := by rw [tk0_f13, K_13, hMo 89 (by decide)]
      have x_14 : I 23 0 = tk0 M 71 14 := by rw [tk0_f14, K_14, hMo 89 (by decide)]
      have x_15 : I 28 0 = tk0 M 71 15 := by rw [tk0_f15, K_15, hMo 89 (by decide)]
      have x_16 : I 17 1 = tk0 M 71 16 := by rw [tk0_f16, K_16, hMo 89 (by decide)]
      have x_17 : I 22 0 = tk0 M 71 17 := by rw [tk0_f17, K_17, hMo 89 (by decide)]
      have x_18 : I 22 1 = tk0 M 71 18 := by rw [tk0_f18, K_18, hMo 89 (by decide)]
      have x_19 : I 22 2 = tk0 M 71 19 := by rw [tk0_f19, K_19, hMo 89 (by decide)]
      have x_20 : I 17 2 = tk0 M 71 20 := by rw [tk0_f20, K_20, hMo 89 (by decide)]
      have hu := okH.mono hH (Nat.le_succ q)
      refine ⟨hz2, ⟨n, c, m, ?_⟩, ?_, ?_, ?_⟩
      · unfold H1
        rw [v2, v3, v4, v5, v8, v9, v10, v11, v13, v14, v15, v16, v1_0, v1_1, v1_2, v6_0, v6_1, v6_2, v7_0, v12_0]
        exact hu
      · unfold EQh
        rw [v2, v3, v4, v5, v8, v9, v10, v11, v13, v14, v15, v16, v1_0, v1_1, v1_2, v6_0, v6_1, v6_2, v7_0, v12_0]
        exact ⟨x73, x74, x75, x76, x77, x78, x79, x80, x81, x82, x83, x84, x_13, x_14, x_15, x_16, x_17, x_18, x_19, x_20⟩
      · have hK2 := hI.up.2.2.2.1
        unfold EQk H17 KQ at hK2 ⊢
        rw [w0, w17, w18, w19, w20, w21, w22, w23, w24, w25, w26, w27, w28, w29, w30, w31, w32, w89, u29]
        exact hK2
      · unfold EQo
        rw [w49, w50, w51, w52, w70, w72, w85, w93, u25, u37]
        exact hO
end
