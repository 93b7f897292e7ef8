/-! pairs of calls: bestDoor -/
def shu (J : Nat → Nat → Int32) (x y : Nat) (v : Int32) : Nat → Nat → Int32 := u2 (u2 J 76 (x * 5 + y) v) 76 (y * 5 + x) v
theorem shu_off {J : Nat → Nat → Int32} {x y b : Nat} {v : Int32} (h : b ≠ 76) : shu J x y v b = J b := by
  unfold shu
  funext j
  simp only [u2_row, if_neg h]
theorem shu_76 {J : Nat → Nat → Int32} {x y j : Nat} {v : Int32} : shu J x y v 76 j = if j = y * 5 + x then v else if j = x * 5 + y then v else J 76 j := by
  unfold shu
  simp only [u2_row, reduceIte]
section
variable {X : SX} {L : Nat → Nat → Int64}
theorem c139 {J : Nat → Nat → Int32} {x y : Nat} {v : Int32} (hx : x < 5) (hy : y < 5) : caD X 139 [.ref 71, .int (nI x), .int (nI y), .int v] (ms J L) = some (none, ms (shu J x y v) L) := by
  have e6 : 5 * nI x + nI y = nI (x * 5 + y) := pr6 hx hy
  have e8 : 5 * nI y + nI x = nI (y * 5 + x) := pr6 hy hx
  have hb5 : inB (nI (x * 5 + y)) 25 := inB_nI (by omega) (by omega)
  have hcl : (nI (x * 5 + y)).toNatClampNeg = x * 5 + y := nI_clamp (by omega)
  have hb7 : inB (nI (y * 5 + x)) 25 := inB_nI (by omega) (by omega)
  have hcl7 : (nI (y * 5 + x)).toNatClampNeg = y * 5 + x := nI_clamp (by omega)
  simp only [e139, a139_0, a139_1, a139_4, a139_5, a139_6, a139_7, a139_8, a139_9, a139_10, a139_11, a139_12, a139_15, a139_16, a139_17, a139_18, a139_19, a139_20, a139_21, a139_22, qgR_some, qiaR_1, qlaR_2, qlnR_1, qlnR_2, qcpR_1, qcR_some, qpsh_v, qpsh_n, qcS_0, qcS_i, qcS_r, qcS_l, qst1_0_x, qst2_0_x, qst1_1_n, qst2_1_n, qst1_1_i, qst2_1_i, qst1_1_r, qst2_1_r, qst1_2_n, qst2_2_n, qst1_2_i, qst2_2_i, qst1_2_r, qst2_2_r, qst1_3_n, qst2_3_n, qst1_3_i, qst2_3_i, qst1_3_r, qst2_3_r, qst1_4_n, qst2_4_n, qst1_4_i, qst2_4_i, qst1_4_r, qst2_4_r, qst1_5_n, qst2_5_n, qst1_5_i, qst2_5_i, qst1_5_r, qst2_5_r, qst1_6_n, qst2_6_n, qst1_6_i, qst2_6_i, qst1_6_r, qst2_6_r, qst1_7_n, qst2_7_n, qst1_7_i, qst2_7_i, qst1_7_r, qst2_7_r, qst1_8_n, qst2_8_n, qst1_8_i, qst2_8_i, qst1_8_r, qst2_8_r, qst1_9_n, qst2_9_n, qst1_9_i, qst2_9_i, qst1_9_r, qst2_9_r, qst1_10_n, qst2_10_n, qst1_10_i, qst2_10_i, qst1_10_r, qst2_10_r, qst1_11_n, qst2_11_n, qst1_11_i, qst2_11_i, qst1_11_r, qst2_11_r, qswE_0, qswE_s, u2_row, z2_row, n32_0_1, n32_0_2, n32_0_3, n32_0_4, n32_0_5, n32_0_6, n32_0_7, n32_0_8, n32_1_0, n32_1_2, n32_1_3, n32_1_4, n32_1_5, n32_1_6, n32_1_7, n32_1_8, n32_2_0, n32_2_1, n32_2_3, n32_2_4, n32_2_5, n32_2_6, n32_2_7, n32_2_8, n32_3_0, n32_3_1, n32_3_2, n32_3_4, n32_3_5, n32_3_6, n32_3_7, n32_3_8, n32_4_0, n32_4_1, n32_4_2, n32_4_3, n32_4_5, n32_4_6, n32_4_7, n32_4_8, n32_5_0, n32_5_1, n32_5_2, n32_5_3, n32_5_4, n32_5_6, n32_5_7, n32_5_8, n32_6_0, n32_6_1, n32_6_2, n32_6_3, n32_6_4, n32_6_5, n32_6_7, n32_6_8, n32_7_0, n32_7_1, n32_7_2, n32_7_3, n32_7_4, n32_7_5, n32_7_6, n32_7_8, n32_8_0, n32_8_1, n32_8_2, n32_8_3, n32_8_4, n32_8_5, n32_8_6, n32_8_7, n32_m1_0, n32_m1_1, n32_m1_2, n32_m2_0, n32_m2_1, n32_m2_2, n32_m3_0, n32_m3_1, n32_m3_2, n32_m4_0, n32_m4_1, n32_m4_2, n32_m6_0, n32_m6_1, n32_m6_2, n32_m9_0, n32_m9_1, n32_m9_2, true_or, or_true, if_true, if_false, eq_self, and_true, true_and, and_self, reduceCtorEq, not_true_eq_false, not_false_eq_true, or_self, false_or, or_false, false_and, and_false, Option.some.injEq, Prod.mk.injEq, Nat.reduceAdd, Nat.reduceMul, Nat.reduceSub, Nat.reduceLT, Nat.reduceEqDiff, Nat.reduceLeDiff, Int32.reduceAdd, Int32.reduceMul, Int32.reduceSub, Int32.reduceLT, Int32.reduceLE, Int32.reduceOfNat, Int32.reduceToNatClampNeg, reduceIte, Nat.zero_le, Nat.reduceDiv, qhk_0, qhk_1, qhk_2, qhk_3, qhk_4, qhk_5, qhk_6, qhk_7, qhk_8, qhk_9, qhk_10, qhk_11, qhk_12, qhk_13, qhk_14, qhk_15, qhk_16, qhk_17, qhk_18, qhk_19, qhk_20, qhk_21, qhk_22, qhk_23, qhk_24, qhk_25, qhk_26, qhk_27, qhk_28, qhk_29, qhk_30, qhk_31, qhk_32, qhk_33, qhk_34, qhk_35, qhk_36, qhk_37, qhk_38, qhk_39, qhk_40, qhk_41, qhk_42, qhk_43, qhk_44, qhk_45, qhk_46, qhk_47, qhk_48, qhk_49, qhk_50, qhk_51, qhk_52, qhk_53, qhk_54, qhk_55, qhk_56, qhk_57, qhk_58, qhk_59, qhk_60, qhk_61, qhk_62, qhk_63, qhk_64, qhk_65, qhk_66, qhk_67, qhk_68, qhk_69, qhk_70, qhk_71, qhk_72, qhk_73, qhk_74, qhk_75, qhk_76, qhk_77, qhk_78, qhk_79, qhk_80, qhk_81, qhk_82, qhk_83, qhk_84, qhk_85, qhk_86, qhk_87, qhk_88, qhk_89, qhk_90, qhk_91, qhk_92, qhk_93, qhk_94, qhk_95, qhk_96, pp_0_0, pp_0_1, pp_0_2, pp_0_4, pp_0_5, pp_0_6, pp_0_7, pp_0_8, pp_0_9, pp_1_3, pp_1_4, pp_1_5, pp_1_6, pp_1_7, pp_1_8, pp_1_9, pp_7_1, pp_7_2, pp_7_3, pp_7_4, pp_12_1, pp_12_2, pp_12_3, pp_12_4, pp_17_3, pp_17_4, pp_17_5, pp_17_6, pp_17_7, pp_17_8, pp_17_9, pp_23_1, pp_23_2, pp_23_3, pp_23_4, pp_28_1, pp_28_2, pp_28_3, pp_28_4, pp_33_3, pp_33_4, pp_33_5, pp_33_6, pp_33_7, pp_33_8, pp_33_9, pp_39_1, pp_39_2, pp_39_3, pp_39_4, pp_44_1, pp_44_2, pp_44_3, pp_44_4, pp_49_0, pp_51_0, pp_53_0, pp_53_1, pp_53_2, pp_58_0, pp_58_1, pp_58_4, pp_58_5, pp_58_6, pp_58_7, pp_61_0, pp_61_1, pp_61_2, pp_65_0, pp_68_0, pp_71_0, pp_71_1, pp_71_2, pp_71_3, pp_71_4, pp_71_5, pp_71_6, pp_71_7, pp_71_8, pp_71_9, pp_71_10, pp_71_11, pp_71_12, pp_71_21, pp_71_22, pp_71_23, pp_71_24, pp_71_28, pp_71_32, pp_71_33, pp_71_34, pp_71_35, pp_71_36, pp_71_39, pp_71_40, e6, e8, hb5, hcl, hb7, hcl7]
  rfl
theorem clo_shut {SR : Nat → Int32} (h : okD SR) {SR2 : Nat → Int32} {x y : Nat} (hx : x < 5) (hy : y < 5) (h2 : ∀ j, j < 25 → SR2 j = if j = y * 5 + x then 1 else if j = x * 5 + y then 1 else SR j) : clo SR SR2 (nI (x * 5 + y)) (nI (y * 5 + x)) := by
  intro f to hf ht
  rw [h2 (f * 5 + to) (by omega)]
  by_cases h3 : f * 5 + to = y * 5 + x
  · rw [if_pos h3]
    exact ⟨fun _ q => q.2.2 (congrArg nI h3), fun _ => rfl⟩
  · rw [if_neg h3]
    by_cases h4 : f * 5 + to = x * 5 + y
    · rw [if_pos h4]
      exact ⟨fun _ q => q.2.1 (congrArg nI h4), fun _ => rfl⟩
    · rw [if_neg h4]
      have n3 : ¬ nI (f * 5 + to) = nI (y * 5 + x) := fun e => h3 ((nI_eq (by omega) (by omega)).mp e)
      have n4 : ¬ nI (f * 5 + to) = nI (x * 5 + y) := fun e => h4 ((nI_eq (by omega) (by omega)).mp e)
      rcases h.1 (f * 5 + to) (by omega) with e | e
      · rw [e]
        exact ⟨fun q => absurd q (by decide), fun q => absurd ⟨rfl, n4, n3⟩ q⟩
      · rw [e]
        exact ⟨fun _ q => absurd q.1 (by decide), fun _ => rfl⟩
theorem mod_shut {J : Nat → Nat → Int32} {n c m q k i x y : Nat} (hH : H1 n c m q J) (hJ : Inv q J) (hi : i < n) (hk : k ≤ 200) (hx : x < n) (hy : y < n) (h0 : J 76 (x * 5 + y) = 0) : ∃ K, caD X 165 [.ref 71, .int (nI i), .int (nI k), .int (-9), .int (-9)] (ms (shu J x y 1) L) = some (some (.int ((hd0 J n c).it (-1) (-1) (nI (x * 5 + y)) (nI (y * 5 + x)) k (J 1 1) (J 2) i)), ms K L) ∧ Same J (shu K x y 0) ∧ Inv q (shu K x y 0) := by
  obtain ⟨⟨hn2, hn5, hn⟩, ⟨hc5, hc⟩, ⟨hm4, hm⟩, H4, H5, H6, H7, H8, H9⟩ := id hH
  have E4 := hJ.2.2.1.2.2.2.1
  have hz1 : ZI (shu J x y 1) := of_zi (caD_ZH (c139 (X := X) (L := L) (J := J) (x := x) (y := y) (v := 1) (by omega) (by omega)) (zi_of hJ.1))
  obtain ⟨hM, m16, m73⟩ := mind_start hH hJ.2.2.1 (fun _ _ => rfl)
  have hM2 : hdM (sv1 (shu J x y 1)) n c (shu J x y 1 76) (hd1 J n c (J 6 0)) := by
    unfold hdM at hM ⊢
    obtain ⟨a1, a2, a3, a4, a5, a6, a7, a8, a9, a10, a11, a12, a13⟩ := hM
    refine ⟨a1, a2, a3, ?_, ?_, ?_, ?_, ?_, ?_, ?_, ?_, ?_, ?_⟩
    · rw [sv1_off (by decide) (by decide)] at a4 ⊢; rw [shu_off (by decide)]; exact a4
    · rw [sv1_off (by decide) (by decide)] at a5 ⊢; rw [shu_off (by decide)]; exact a5
    · rw [sv1_off (by decide) (by decide)] at a6 ⊢; rw [shu_off (by decide)]; exact a6
    · rw [sv1_off (by decide) (by decide)] at a7 ⊢; rw [shu_off (by decide)]; exact a7
    · rw [sv1_off (by decide) (by decide)] at a8 ⊢; rw [shu_off (by decide)]; exact a8
    · rw [sv1_off (by decide) (by decide)] at a9 ⊢; rw [shu_off (by decide)]; exact a9
    · rw [sv1_71 (by decide) (by decide)] at a10 ⊢; rw [shu_off (by decide)]; exact a10
    · rw [sv1_off (by decide) (by decide)]
    · rw [sv1_71 (by decide) (by decide)] at a12 ⊢; rw [shu_off (by decide)]; exact a12
    · rw [sv1_71 (by decide) (by decide)] at a13 ⊢; rw [shu_off (by decide)]; exact a13
  have p16 : sv1 (shu J x y 1) 71 16 = J 1 1 := by rw [sv1_71 (by decide) (by decide)] at m16 ⊢; rw [shu_off (by decide)]; exact m16
  have p73 : sv1 (shu J x y 1) 73 = J 2 := by rw [sv1_off (by decide) (by decide)] at m73 ⊢; rw [shu_off (by decide)]; exact m73
  have hC : clo (hd1 J n c (J 6 0)).SR (shu J x y 1 76) (nI (x * 5 + y)) (nI (y * 5 + x)) := clo_shut H6 (by omega) (by omega) (fun j hj => by rw [shu_76, ← E4])
  obtain ⟨g1, -⟩ := gM_row (h := hd1 J n c (J 6 0)) (agr_all hc5 hn5) hC k _ hM2 (by rw [p16]; exact H9.1.1) (by rw [p16]; have := H9.1.2; omega) (by rw [p73]; exact H4)
  rw [p16, p73] at g1
  have hc165 := c165 (X := X) (L := L) (tp := -9) (lo := -9) hM2 (show i < 5 by omega) hk
  rw [g1] at hc165
  have hz := of_zi (caD_ZH hc165 (zi_of hz1))
  have h : Mnd (shu J x y 1) (gM c n (-9) (-9) (-9) k (sv1 (shu J x y 1))) := Mnd.sv.runs k
  have hs := Same.back hz1 hz h.1 h.2.1 h.2.2.1 h.2.2.2.1 h.2.2.2.2.1 h.2.2.2.2.2.1 h.2.2.2.2.2.2.1 h.2.2.2.2.2.2.2
  refine ⟨_, hc165, ?_⟩
  generalize tk1 (gM c n (-9) (-9) (-9) k (sv1 (shu J x y 1))) = K at hz hs
  have hz2 : ZI (shu K x y 0) := of_zi (caD_ZH (c139 (X := X) (L := L) (J := K) (x := x) (y := y) (v := 0) (by omega) (by omega)) (zi_of hz))
  have h0' : J 76 (y * 5 + x) = 0 := by rw [← E4] at h0 ⊢; rw [← H6.2 x y (by omega) (by omega)]; exact h0
  obtain ⟨s1, s2, s3, s4, s5, s6, s7⟩ := hs
  have hsame : Same J (shu K x y 0) := by
    refine ⟨fun b hb => ?_, fun b h1 h2 => ?_, ?_, fun b h1 h2 => ?_, ?_, fun j hj => ?_, fun j g1 g2 g3 g4 g5 => ?_⟩
    · rw [shu_off (by omega), s1 b hb, shu_off (by omega)]
    · rw [shu_off (by omega), s2 b h1 h2, shu_off (by omega)]
    · rw [shu_off (by omega), s3, shu_off (by omega)]
    · by_cases e : b = 76
      · subst e
        funext j
        rw [shu_76, s4 76 (by omega) (by omega), shu_76]
        split
        · rename_i e; rw [e, h0']
        · split
          · rename_i e; rw [e, h0]
          · rfl
      · rw [shu_off e, s4 b h1 h2, shu_off e]
    · rw [shu_off (by omega), s5, shu_off (by omega)]
    · rw [shu_off (by omega), s6 j hj, shu_off (by omega)]
    · rw [shu_off (by omega), s7 j g1 g2 g3 g4 g5, shu_off (by omega)]
  exact ⟨hsame, hJ.same (Nat.le_refl q) hz2 hsame⟩
end
