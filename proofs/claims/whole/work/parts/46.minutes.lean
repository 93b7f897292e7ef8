/-! minutes of a house, as numbers -/
def HD : Type := Nat × Nat × (Nat → Int32) × (Nat → Int32) × (Nat → Int32) × (Nat → Int32) × (Nat → Int32) × (Nat → Int32) × (Nat → Int32) × Int32
def HD.n (h : HD) : Nat := h.1
def HD.c (h : HD) : Nat := h.2.1
def HD.FL (h : HD) : Nat → Int32 := h.2.2.1
def HD.SR (h : HD) : Nat → Int32 := h.2.2.2.1
def HD.O (h : HD) : Nat → Int32 := h.2.2.2.2.1
def HD.K (h : HD) : Nat → Int32 := h.2.2.2.2.2.1
def HD.P (h : HD) : Nat → Int32 := h.2.2.2.2.2.2.1
def HD.S (h : HD) : Nat → Int32 := h.2.2.2.2.2.2.2.1
def HD.F (h : HD) : Nat → Int32 := h.2.2.2.2.2.2.2.2.1
def HD.w (h : HD) : Int32 := h.2.2.2.2.2.2.2.2.2
def HD.ok (h : HD) : Prop := (2 ≤ h.n ∧ h.n ≤ 5) ∧ h.c ≤ 5 ∧ okF h.FL h.O ∧ okK h.c h.n h.K h.P h.S h.F
def HD.min (h : HD) (g tp sp sb t : Int32) (row : Nat → Int32) : Nat → Int32 := minC h.FL h.SR h.O sp sb h.n (gvF h.K h.P h.S h.F (nI h.n) t h.w g tp h.c 0 row)
def HD.it (h : HD) (g tp sp sb : Int32) : Nat → Int32 → (Nat → Int32) → Nat → Int32
  | 0, _, row => row
  | m + 1, t, row => h.it g tp sp sb m (t + 1) (h.min g tp sp sb t row)
theorem HD.it_add (h : HD) (g tp sp sb : Int32) : ∀ (a b : Nat) (t : Int32) (row : Nat → Int32), h.it g tp sp sb (a + b) t row = h.it g tp sp sb b (t + nI a) (h.it g tp sp sb a t row)
  | 0, b, t, row => by
    rw [Nat.zero_add]
    show _ = h.it g tp sp sb b (t + 0) row
    rw [Int32.add_zero]
  | a + 1, b, t, row => by
    rw [Nat.succ_add]
    show h.it g tp sp sb (a + b) (t + 1) (h.min g tp sp sb t row) = h.it g tp sp sb b (t + nI (a + 1)) (h.it g tp sp sb a (t + 1) (h.min g tp sp sb t row))
    rw [HD.it_add h g tp sp sb a b, nI_succ, Int32.add_assoc, Int32.add_comm 1]
/-- what gives and where nothing is given, said in the class's way and in the reference's -/
def agr (c n : Nat) (g tp tp2 lo on : Int32) : Prop := (∀ i, i < c → (actC g i ↔ ¬ nI i = lo ∧ (on < 0 ∨ nI i = on))) ∧ ∀ j, j < n → (nI j = tp ↔ nI j = tp2)
theorem HD.mn_eq {h : HD} (hk : h.ok) {g tp sp sb t tp2 lo on : Int32} {SR2 H cm row : Nat → Int32} (ha : agr h.c h.n g tp tp2 lo on) (hC : clo h.SR SR2 sp sb) (ht : 0 ≤ t.toInt ∧ t.toInt ≤ 1000000) (hr : okS h.n row)
    (hH : ∀ j, j < h.n → H j = gmF h.K h.P h.S h.F (nI h.n) t h.w tp2 lo on h.c 0 row j) (hcm : ∀ j, j < h.n → cm j = 0) :
    h.min g tp sp sb t row = minM h.FL SR2 h.O h.n H cm (gmF h.K h.P h.S h.F (nI h.n) t h.w tp2 lo on h.c 0 row) ∧ okS h.n (h.min g tp sp sb t row) := by
  obtain ⟨hn, hc, hF, hK⟩ := hk
  have h1 := gv_eq hn.2 hK (w := h.w) ht ha.1 ha.2 h.c 0 row (by omega) hr
  rw [← h1.1] at hH ⊢
  exact min_eq hn.2 hF hC h1.2 hH hcm
theorem HD.min_ok {h : HD} (hk : h.ok) {g tp sp sb t tp2 lo on : Int32} {SR2 row : Nat → Int32} (ha : agr h.c h.n g tp tp2 lo on) (hC : clo h.SR SR2 sp sb) (ht : 0 ≤ t.toInt ∧ t.toInt ≤ 1000000) (hr : okS h.n row) : okS h.n (h.min g tp sp sb t row) :=
  (HD.mn_eq hk ha hC ht hr (H := gmF h.K h.P h.S h.F (nI h.n) t h.w tp2 lo on h.c 0 row) (cm := fun _ => 0) (fun _ _ => rfl) (fun _ _ => rfl)).2
theorem t_up {t : Int32} {m : Nat} (ht : 0 ≤ t.toInt) (h : t.toInt + m ≤ 1000000) : (t + nI m).toInt = t.toInt + m := by
  have hm : (nI m).toInt = (m : Int) := nI_toInt (by omega)
  rw [add_small ⟨ht, by omega⟩ ⟨by omega, by omega⟩, hm]
theorem HD.it_ok {h : HD} (hk : h.ok) {g tp sp sb tp2 lo on : Int32} {SR2 : Nat → Int32} (ha : agr h.c h.n g tp tp2 lo on) (hC : clo h.SR SR2 sp sb) : ∀ (m : Nat) (t : Int32) (row : Nat → Int32), 0 ≤ t.toInt → t.toInt + m ≤ 1000000 → okS h.n row → okS h.n (h.it g tp sp sb m t row)
  | 0, t, row, _, _, hr => hr
  | m + 1, t, row, h0, hm, hr => by
    have h1 := t_up (m := 1) h0 (by omega)
    have e : nI 1 = 1 := rfl
    rw [e] at h1
    exact HD.it_ok hk ha hC m (t + 1) _ (by omega) (by omega) (HD.min_ok hk ha hC ⟨h0, by omega⟩ hr)
/-- the class's house 1 -/
def hd1 (I : Nat → Nat → Int32) (n c : Nat) (w : Int32) : HD := (n, c, I 4, I 5, I 3, I 8, I 9, I 10, I 11, w)
theorem tp_row_53 {n c : Nat} : ∀ (m : Nat) (I : Nat → Nat → Int32), tp_53 c n m I 54 = (hd1 I n c (I 53 4)).it (I 53 5) (I 53 6) (I 53 7) (I 53 8) m (I 53 3) (I 54) ∧ tp_53 c n m I 53 3 = I 53 3 + nI m ∧ ∀ j, j ≠ 3 → tp_53 c n m I 53 j = I 53 j
  | 0, I => ⟨rfl, by show _ = I 53 3 + 0; rw [Int32.add_zero]; rfl, fun _ _ => rfl⟩
  | m + 1, I => by
    obtain ⟨h1, h2, h3⟩ := tp_row_53 (n := n) (c := c) m (t7_53 I c n)
    refine ⟨?_, ?_, ?_⟩
    · show tp_53 c n m (t7_53 I c n) 54 = _
      rw [h1]
      rfl
    · show tp_53 c n m (t7_53 I c n) 53 3 = _
      rw [h2]
      show I 53 3 + 1 + nI m = _
      rw [nI_succ, Int32.add_assoc, Int32.add_comm 1]
    · intro j hj
      show tp_53 c n m (t7_53 I c n) 53 j = _
      rw [h3 j hj]
      unfold t7_53
      simp only [u2_row, reduceIte, if_neg hj, z2_row, Nat.reduceEqDiff]
theorem tp_row_61 {n c : Nat} : ∀ (m : Nat) (I : Nat → Nat → Int32), tp_61 c n m I 62 = (hd1 I n c (I 61 4)).it (I 61 5) (I 61 6) (I 61 7) (I 61 8) m (I 61 3) (I 62) ∧ tp_61 c n m I 61 3 = I 61 3 + nI m ∧ ∀ j, j ≠ 3 → tp_61 c n m I 61 j = I 61 j
  | 0, I => ⟨rfl, by show _ = I 61 3 + 0; rw [Int32.add_zero]; rfl, fun _ _ => rfl⟩
  | m + 1, I => by
    obtain ⟨h1, h2, h3⟩ := tp_row_61 (n := n) (c := c) m (t7_61 I c n)
    refine ⟨?_, ?_, ?_⟩
    · show tp_61 c n m (t7_61 I c n) 62 = _
      rw [h1]
      rfl
    · show tp_61 c n m (t7_61 I c n) 61 3 = _
      rw [h2]
      show I 61 3 + 1 + nI m = _
      rw [nI_succ, Int32.add_assoc, Int32.add_comm 1]
    · intro j hj
      show tp_61 c n m (t7_61 I c n) 61 j = _
      rw [h3 j hj]
      unfold t7_61
      simp only [u2_row, reduceIte, if_neg hj, z2_row, Nat.reduceEqDiff]
/-- the reference's house -/
def hdM (I : Nat → Nat → Int32) (n c : Nat) (SR : Nat → Int32) (h : HD) : Prop := h.ok ∧ h.n = n ∧ h.c = c ∧ I 75 = h.FL ∧ I 74 = h.O ∧ I 77 = h.K ∧ I 78 = h.P ∧ I 79 = h.S ∧ I 80 = h.F ∧ I 71 17 = h.w ∧ I 76 = SR ∧ I 71 13 = nI n ∧ I 71 14 = nI c
theorem tM_off {I : Nat → Nat → Int32} {c n b : Nat} {tp lo on : Int32} (h1 : b ≠ 71) (h2 : b ≠ 73) (h3 : b ≠ 90) (h4 : b ≠ 91) : tM I c n tp lo on b = I b := by
  unfold tM
  simp only [u2_row, z2_row, if_neg h1, if_neg h2, if_neg h3, if_neg h4]
theorem tM_71 {I : Nat → Nat → Int32} {c n j : Nat} {tp lo on : Int32} (h1 : j ≠ 16) : tM I c n tp lo on 71 j = I 71 j := by
  unfold tM
  simp only [u2_row, z2_row, reduceIte, if_neg h1, Nat.reduceEqDiff]
theorem hdM.step {I : Nat → Nat → Int32} {n c : Nat} {SR : Nat → Int32} {h : HD} {tp lo on : Int32} (hM : hdM I n c SR h) : hdM (tM I c n tp lo on) n c SR h := by
  unfold hdM at hM ⊢
  rw [tM_off (b := 75) (by decide) (by decide) (by decide) (by decide), tM_off (b := 74) (by decide) (by decide) (by decide) (by decide), tM_off (b := 77) (by decide) (by decide) (by decide) (by decide), tM_off (b := 78) (by decide) (by decide) (by decide) (by decide), tM_off (b := 79) (by decide) (by decide) (by decide) (by decide), tM_off (b := 80) (by decide) (by decide) (by decide) (by decide), tM_off (b := 76) (by decide) (by decide) (by decide) (by decide), tM_71 (j := 17) (by decide), tM_71 (j := 13) (by decide), tM_71 (j := 14) (by decide)]
  exact hM
theorem tM_row {I : Nat → Nat → Int32} {n c : Nat} {SR : Nat → Int32} {h : HD} {g tp tp2 sp sb lo on : Int32} (hM : hdM I n c SR h) (ha : agr c n g tp tp2 lo on) (hC : clo h.SR SR sp sb) (ht : 0 ≤ (I 71 16).toInt ∧ (I 71 16).toInt ≤ 1000000) (hr : okS n (I 73)) :
    tM I c n tp2 lo on 73 = h.min g tp sp sb (I 71 16) (I 73) ∧ tM I c n tp2 lo on 71 16 = I 71 16 + 1 := by
  obtain ⟨hk, rfl, rfl, e75, e74, e77, e78, e79, e80, e17, e76, e13, e14⟩ := hM
  refine ⟨?_, rfl⟩
  show minM (I 75) (I 76) (I 74) h.n (cpN h.n (gmF (I 77) (I 78) (I 79) (I 80) (nI h.n) (I 71 16) (I 71 17) tp2 lo on h.c 0 (I 73)) (I 90)) (cpN h.n (fun _ => 0) (I 91)) (gmF (I 77) (I 78) (I 79) (I 80) (nI h.n) (I 71 16) (I 71 17) tp2 lo on h.c 0 (I 73)) = _
  rw [e75, e76, e74, e77, e78, e79, e80, e17]
  exact (HD.mn_eq hk ha hC ht hr (fun j hj => by unfold cpN; rw [if_pos hj]) (fun j hj => by unfold cpN; rw [if_pos hj])).1.symm
theorem hdM.mn149 {X : SX} {L : Nat → Nat → Int64} {I : Nat → Nat → Int32} {n c : Nat} {SR : Nat → Int32} {h : HD} {tp lo on : Int32} (hM : hdM I n c SR h) : caD X 149 [.ref 71, .int tp, .int lo, .int on] (ms I L) = some (none, ms (tM I c n tp lo on) L) := by
  obtain ⟨⟨hn, hc, hF, hK⟩, rfl, rfl, e75, e74, e77, e78, e79, e80, e17, e76, e13, e14⟩ := hM
  refine c149 hc hn.2 (by omega) (fun i hi => ?_) (fun i hi => ?_) e14 e13
  · rw [e80, i_lt, fg_pos (hK i hi).2.2]
    have := (hK i hi).2.2.1
    show 0 < _
    omega
  · rw [e77, e78]
    obtain ⟨p, hp, e⟩ := (hK i hi).1
    rw [e]
    have := tgt_eq (kd := h.K i) hp hn.2
    rw [← this.1]
    exact this.2
def gM (c n : Nat) (tp lo on : Int32) : Nat → (Nat → Nat → Int32) → Nat → Nat → Int32
  | 0, I => I
  | m + 1, I => gM c n tp lo on m (tM I c n tp lo on)
theorem gM_off {c n b : Nat} {tp lo on : Int32} (h1 : b ≠ 71) (h2 : b ≠ 73) (h3 : b ≠ 90) (h4 : b ≠ 91) : ∀ (m : Nat) (I : Nat → Nat → Int32), gM c n tp lo on m I b = I b
  | 0, I => rfl
  | m + 1, I => (gM_off h1 h2 h3 h4 m _).trans (tM_off h1 h2 h3 h4)
theorem gM_71 {c n j : Nat} {tp lo on : Int32} (h1 : j ≠ 16) : ∀ (m : Nat) (I : Nat → Nat → Int32), gM c n tp lo on m I 71 j = I 71 j
  | 0, I => rfl
  | m + 1, I => (gM_71 h1 m _).trans (tM_71 h1)
theorem gM_row {n c : Nat} {SR : Nat → Int32} {h : HD} {g tp tp2 sp sb lo on : Int32} (ha : agr c n g tp tp2 lo on) (hC : clo h.SR SR sp sb) : ∀ (m : Nat) (I : Nat → Nat → Int32), hdM I n c SR h → 0 ≤ (I 71 16).toInt → (I 71 16).toInt + m ≤ 1000000 → okS n (I 73) →
    gM c n tp2 lo on m I 73 = h.it g tp sp sb m (I 71 16) (I 73) ∧ gM c n tp2 lo on m I 71 16 = I 71 16 + nI m ∧ hdM (gM c n tp2 lo on m I) n c SR h ∧ okS n (h.it g tp sp sb m (I 71 16) (I 73))
  | 0, I, hM, h0, h1, hr => ⟨rfl, by show _ = I 71 16 + 0; rw [Int32.add_zero]; rfl, hM, hr⟩
  | m + 1, I, hM, h0, h1, hr => by
    obtain ⟨a1, a2⟩ := tM_row hM ha hC ⟨h0, by omega⟩ hr
    have e := t_up (m := 1) h0 (by omega)
    have e1 : nI 1 = 1 := rfl
    rw [e1] at e
    have hr2 : okS n (tM I c n tp2 lo on 73) := by
      rw [a1]
      obtain ⟨hk, rfl, rfl, -⟩ := hM
      exact HD.min_ok hk ha hC ⟨h0, by omega⟩ hr
    obtain ⟨b1, b2, b3, b4⟩ := gM_row ha hC m (tM I c n tp2 lo on) hM.step (by rw [a2]; omega) (by rw [a2]; omega) hr2
    rw [a1, a2] at b4 b1
    refine ⟨b1, ?_, b3, b4⟩
    show gM c n tp2 lo on m (tM I c n tp2 lo on) 71 16 = _
    rw [b2, a2, nI_succ, Int32.add_assoc, Int32.add_comm 1]
theorem c150 {X : SX} {L : Nat → Nat → Int64} {n c m : Nat} {SR : Nat → Int32} {h : HD} {tp lo : Int32} (hm : m < 2 ^ 31) {I : Nat → Nat → Int32} (hM : hdM I n c SR h) : caD X 150 [.ref 71, .int (nI m), .int tp, .int lo] (ms I L) = some (none, ms (gM c n tp lo (-9) m I) L) := by
  have key : ∀ (r i : Nat) (I : Nat → Nat → Int32), i + r = m → hdM I n c SR h → exD X 150 3 [some (.ref 71), some (.int (nI m)), some (.int tp), some (.int lo), some (.int (nI i))] [] (ms I L) = some (none, ms (gM c n tp lo (-9) r I) L) := by
    intro r
    induction r with
    | zero =>
      intro i I hi hM
      have hle : nI m ≤ nI i := nI_le (by omega) (by omega)
      rw [a150_3]
      simp only [a150_0, a150_1, a150_5, a150_6, a150_9, a150_10, a150_11, a150_12, a150_14, a150_17, a150_20, a150_23, qgR_some, qiaR_1, qlaR_2, qlnR_1, qlnR_2, qcpR_1, qcR_some, qpsh_v, qpsh_n, qcS_0, qcS_i, qcS_r, qcS_l, qst1_0_x, qst2_0_x, qst1_1_n, qst2_1_n, qst1_1_i, qst2_1_i, qst1_1_r, qst2_1_r, qst1_2_n, qst2_2_n, qst1_2_i, qst2_2_i, qst1_2_r, qst2_2_r, qst1_3_n, qst2_3_n, qst1_3_i, qst2_3_i, qst1_3_r, qst2_3_r, qst1_4_n, qst2_4_n, qst1_4_i, qst2_4_i, qst1_4_r, qst2_4_r, qst1_5_n, qst2_5_n, qst1_5_i, qst2_5_i, qst1_5_r, qst2_5_r, qst1_6_n, qst2_6_n, qst1_6_i, qst2_6_i, qst1_6_r, qst2_6_r, qst1_7_n, qst2_7_n, qst1_7_i, qst2_7_i, qst1_7_r, qst2_7_r, qst1_8_n, qst2_8_n, qst1_8_i, qst2_8_i, qst1_8_r, qst2_8_r, qst1_9_n, qst2_9_n, qst1_9_i, qst2_9_i, qst1_9_r, qst2_9_r, qst1_10_n, qst2_10_n, qst1_10_i, qst2_10_i, qst1_10_r, qst2_10_r, qst1_11_n, qst2_11_n, qst1_11_i, qst2_11_i, qst1_11_r, qst2_11_r, qswE_0, qswE_s, u2_row, z2_row, n32_0_1, n32_0_2, n32_0_3, n32_0_4, n32_0_5, n32_0_6, n32_0_7, n32_0_8, n32_1_0, n32_1_2, n32_1_3, n32_1_4, n32_1_5, n32_1_6, n32_1_7, n32_1_8, n32_2_0, n32_2_1, n32_2_3, n32_2_4, n32_2_5, n32_2_6, n32_2_7, n32_2_8, n32_3_0, n32_3_1, n32_3_2, n32_3_4, n32_3_5, n32_3_6, n32_3_7, n32_3_8, n32_4_0, n32_4_1, n32_4_2, n32_4_3, n32_4_5, n32_4_6, n32_4_7, n32_4_8, n32_5_0, n32_5_1, n32_5_2, n32_5_3, n32_5_4, n32_5_6, n32_5_7, n32_5_8, n32_6_0, n32_6_1, n32_6_2, n32_6_3, n32_6_4, n32_6_5, n32_6_7, n32_6_8, n32_7_0, n32_7_1, n32_7_2, n32_7_3, n32_7_4, n32_7_5, n32_7_6, n32_7_8, n32_8_0, n32_8_1, n32_8_2, n32_8_3, n32_8_4, n32_8_5, n32_8_6, n32_8_7, n32_m1_0, n32_m1_1, n32_m1_2, n32_m2_0, n32_m2_1, n32_m2_2, n32_m3_0, n32_m3_1, n32_m3_2, n32_m4_0, n32_m4_1, n32_m4_2, n32_m6_0, n32_m6_1, n32_m6_2, n32_m9_0, n32_m9_1, n32_m9_2, true_or, or_true, if_true, if_false, eq_self, and_true, true_and, and_self, reduceCtorEq, not_true_eq_false, not_false_eq_true, or_self, false_or, or_false, false_and, and_false, Option.some.injEq, Prod.mk.injEq, Nat.reduceAdd, Nat.reduceMul, Nat.reduceSub, Nat.reduceLT, Nat.reduceEqDiff, Nat.reduceLeDiff, Int32.reduceAdd, Int32.reduceMul, Int32.reduceSub, Int32.reduceLT, Int32.reduceLE, Int32.reduceOfNat, Int32.reduceToNatClampNeg, reduceIte, Nat.zero_le, Nat.reduceDiv, qhk_0, qhk_1, qhk_2, qhk_3, qhk_4, qhk_5, qhk_6, qhk_7, qhk_8, qhk_9, qhk_10, qhk_11, qhk_12, qhk_13, qhk_14, qhk_15, qhk_16, qhk_17, qhk_18, qhk_19, qhk_20, qhk_21, qhk_22, qhk_23, qhk_24, qhk_25, qhk_26, qhk_27, qhk_28, qhk_29, qhk_30, qhk_31, qhk_32, qhk_33, qhk_34, qhk_35, qhk_36, qhk_37, qhk_38, qhk_39, qhk_40, qhk_41, qhk_42, qhk_43, qhk_44, qhk_45, qhk_46, qhk_47, qhk_48, qhk_49, qhk_50, qhk_51, qhk_52, qhk_53, qhk_54, qhk_55, qhk_56, qhk_57, qhk_58, qhk_59, qhk_60, qhk_61, qhk_62, qhk_63, qhk_64, qhk_65, qhk_66, qhk_67, qhk_68, qhk_69, qhk_70, qhk_71, qhk_72, qhk_73, qhk_74, qhk_75, qhk_76, qhk_77, qhk_78, qhk_79, qhk_80, qhk_81, qhk_82, qhk_83, qhk_84, qhk_85, qhk_86, qhk_87, qhk_88, qhk_89, qhk_90, qhk_91, qhk_92, qhk_93, qhk_94, qhk_95, qhk_96, pp_0_0, pp_0_1, pp_0_2, pp_0_4, pp_0_5, pp_0_6, pp_0_7, pp_0_8, pp_0_9, pp_1_3, pp_1_4, pp_1_5, pp_1_6, pp_1_7, pp_1_8, pp_1_9, pp_7_1, pp_7_2, pp_7_3, pp_7_4, pp_12_1, pp_12_2, pp_12_3, pp_12_4, pp_17_3, pp_17_4, pp_17_5, pp_17_6, pp_17_7, pp_17_8, pp_17_9, pp_23_1, pp_23_2, pp_23_3, pp_23_4, pp_28_1, pp_28_2, pp_28_3, pp_28_4, pp_33_3, pp_33_4, pp_33_5, pp_33_6, pp_33_7, pp_33_8, pp_33_9, pp_39_1, pp_39_2, pp_39_3, pp_39_4, pp_44_1, pp_44_2, pp_44_3, pp_44_4, pp_49_0, pp_51_0, pp_53_0, pp_53_1, pp_53_2, pp_58_0, pp_58_1, pp_58_4, pp_58_5, pp_58_6, pp_58_7, pp_61_0, pp_61_1, pp_61_2, pp_65_0, pp_68_0, pp_71_0, pp_71_1, pp_71_2, pp_71_3, pp_71_4, pp_71_5, pp_71_6, pp_71_7, pp_71_8, pp_71_9, pp_71_10, pp_71_11, pp_71_12, pp_71_21, pp_71_22, pp_71_23, pp_71_24, pp_71_28, pp_71_32, pp_71_33, pp_71_34, pp_71_35, pp_71_36, pp_71_39, pp_71_40, hle]
      rfl
    | succ r ih =>
      intro i I hi hM
      have hle : ¬ nI m ≤ nI i := nI_ge (by omega) (by omega)
      rw [a150_3]
      simp only [a150_0, a150_1, a150_5, a150_6, a150_9, a150_10, a150_11, a150_12, a150_14, a150_17, a150_20, a150_23, qgR_some, qiaR_1, qlaR_2, qlnR_1, qlnR_2, qcpR_1, qcR_some, qpsh_v, qpsh_n, qcS_0, qcS_i, qcS_r, qcS_l, qst1_0_x, qst2_0_x, qst1_1_n, qst2_1_n, qst1_1_i, qst2_1_i, qst1_1_r, qst2_1_r, qst1_2_n, qst2_2_n, qst1_2_i, qst2_2_i, qst1_2_r, qst2_2_r, qst1_3_n, qst2_3_n, qst1_3_i, qst2_3_i, qst1_3_r, qst2_3_r, qst1_4_n, qst2_4_n, qst1_4_i, qst2_4_i, qst1_4_r, qst2_4_r, qst1_5_n, qst2_5_n, qst1_5_i, qst2_5_i, qst1_5_r, qst2_5_r, qst1_6_n, qst2_6_n, qst1_6_i, qst2_6_i, qst1_6_r, qst2_6_r, qst1_7_n, qst2_7_n, qst1_7_i, qst2_7_i, qst1_7_r, qst2_7_r, qst1_8_n, qst2_8_n, qst1_8_i, qst2_8_i, qst1_8_r, qst2_8_r, qst1_9_n, qst2_9_n, qst1_9_i, qst2_9_i, qst1_9_r, qst2_9_r, qst1_10_n, qst2_10_n, qst1_10_i, qst2_10_i, qst1_10_r, qst2_10_r, qst1_11_n, qst2_11_n, qst1_11_i, qst2_11_i, qst1_11_r, qst2_11_r, qswE_0, qswE_s, u2_row, z2_row, n32_0_1, n32_0_2, n32_0_3, n32_0_4, n32_0_5, n32_0_6, n32_0_7, n32_0_8, n32_1_0, n32_1_2, n32_1_3, n32_1_4, n32_1_5, n32_1_6, n32_1_7, n32_1_8, n32_2_0, n32_2_1, n32_2_3, n32_2_4, n32_2_5, n32_2_6, n32_2_7, n32_2_8, n32_3_0, n32_3_1, n32_3_2, n32_3_4, n32_3_5, n32_3_6, n32_3_7, n32_3_8, n32_4_0, n32_4_1, n32_4_2, n32_4_3, n32_4_5, n32_4_6, n32_4_7, n32_4_8, n32_5_0, n32_5_1, n32_5_2, n32_5_3, n32_5_4, n32_5_6, n32_5_7, n32_5_8, n32_6_0, n32_6_1, n32_6_2, n32_6_3, n32_6_4, n32_6_5, n32_6_7, n32_6_8, n32_7_0, n32_7_1, n32_7_2, n32_7_3, n32_7_4, n32_7_5, n32_7_6, n32_7_8, n32_8_0, n32_8_1, n32_8_2, n32_8_3, n32_8_4, n32_8_5, n32_8_6, n32_8_7, n32_m1_0, n32_m1_1, n32_m1_2, n32_m2_0, n32_m2_1, n32_m2_2, n32_m3_0, n32_m3_1, n32_m3_2, n32_m4_0, n32_m4_1, n32_m4_2, n32_m6_0, n32_m6_1, n32_m6_2, n32_m9_0, n32_m9_1, n32_m9_2, true_or, or_true, if_true, if_false, eq_self, and_true, true_and, and_self, reduceCtorEq, not_true_eq_false, not_false_eq_true, or_self, false_or, or_false, false_and, and_false, Option.some.injEq, Prod.mk.injEq, Nat.reduceAdd, Nat.reduceMul, Nat.reduceSub, Nat.reduceLT, Nat.reduceEqDiff, Nat.reduceLeDiff, Int32.reduceAdd, Int32.reduceMul, Int32.reduceSub, Int32.reduceLT, Int32.reduceLE, Int32.reduceOfNat, Int32.reduceToNatClampNeg, reduceIte, Nat.zero_le, Nat.reduceDiv, qhk_0, qhk_1, qhk_2, qhk_3, qhk_4, qhk_5, qhk_6, qhk_7, qhk_8, qhk_9, qhk_10, qhk_11, qhk_12, qhk_13, qhk_14, qhk_15, qhk_16, qhk_17, qhk_18, qhk_19, qhk_20, qhk_21, qhk_22, qhk_23, qhk_24, qhk_25, qhk_26, qhk_27, qhk_28, qhk_29, qhk_30, qhk_31, qhk_32, qhk_33, qhk_34, qhk_35, qhk_36, qhk_37, qhk_38, qhk_39, qhk_40, qhk_41, qhk_42, qhk_43, qhk_44, qhk_45, qhk_46, qhk_47, qhk_48, qhk_49, qhk_50, qhk_51, qhk_52, qhk_53, qhk_54, qhk_55, qhk_56, qhk_57, qhk_58, qhk_59, qhk_60, qhk_61, qhk_62, qhk_63, qhk_64, qhk_65, qhk_66, qhk_67, qhk_68, qhk_69, qhk_70, qhk_71, qhk_72, qhk_73, qhk_74, qhk_75, qhk_76, qhk_77, qhk_78, qhk_79, qhk_80, qhk_81, qhk_82, qhk_83, qhk_84, qhk_85, qhk_86, qhk_87, qhk_88, qhk_89, qhk_90, qhk_91, qhk_92, qhk_93, qhk_94, qhk_95, qhk_96, pp_0_0, pp_0_1, pp_0_2, pp_0_4, pp_0_5, pp_0_6, pp_0_7, pp_0_8, pp_0_9, pp_1_3, pp_1_4, pp_1_5, pp_1_6, pp_1_7, pp_1_8, pp_1_9, pp_7_1, pp_7_2, pp_7_3, pp_7_4, pp_12_1, pp_12_2, pp_12_3, pp_12_4, pp_17_3, pp_17_4, pp_17_5, pp_17_6, pp_17_7, pp_17_8, pp_17_9, pp_23_1, pp_23_2, pp_23_3, pp_23_4, pp_28_1, pp_28_2, pp_28_3, pp_28_4, pp_33_3, pp_33_4, pp_33_5, pp_33_6, pp_33_7, pp_33_8, pp_33_9, pp_39_1, pp_39_2, pp_39_3, pp_39_4, pp_44_1, pp_44_2, pp_44_3, pp_44_4, pp_49_0, pp_51_0, pp_53_0, pp_53_1, pp_53_2, pp_58_0, pp_58_1, pp_58_4, pp_58_5, pp_58_6, pp_58_7, pp_61_0, pp_61_1, pp_61_2, pp_65_0, pp_68_0, pp_71_0, pp_71_1, pp_71_2, pp_71_3, pp_71_4, pp_71_5, pp_71_6, pp_71_7, pp_71_8, pp_71_9, pp_71_10, pp_71_11, pp_71_12, pp_71_21, pp_71_22, pp_71_23, pp_71_24, pp_71_28, pp_71_32, pp_71_33, pp_71_34, pp_71_35, pp_71_36, pp_71_39, pp_71_40, hle, hM.mn149]
      rw [nI_1]
      exact ih (i + 1) _ (by omega) hM.step
  simp only [e150, a150_0, a150_1, a150_5, a150_6, a150_9, a150_10, a150_11, a150_12, a150_14, a150_17, a150_20, a150_23, qgR_some, qiaR_1, qlaR_2, qlnR_1, qlnR_2, qcpR_1, qcR_some, qpsh_v, qpsh_n, qcS_0, qcS_i, qcS_r, qcS_l, qst1_0_x, qst2_0_x, qst1_1_n, qst2_1_n, qst1_1_i, qst2_1_i, qst1_1_r, qst2_1_r, qst1_2_n, qst2_2_n, qst1_2_i, qst2_2_i, qst1_2_r, qst2_2_r, qst1_3_n, qst2_3_n, qst1_3_i, qst2_3_i, qst1_3_r, qst2_3_r, qst1_4_n, qst2_4_n, qst1_4_i, qst2_4_i, qst1_4_r, qst2_4_r, qst1_5_n, qst2_5_n, qst1_5_i, qst2_5_i, qst1_5_r, qst2_5_r, qst1_6_n, qst2_6_n, qst1_6_i, qst2_6_i, qst1_6_r, qst2_6_r, qst1_7_n, qst2_7_n, qst1_7_i, qst2_7_i, qst1_7_r, qst2_7_r, qst1_8_n, qst2_8_n, qst1_8_i, qst2_8_i, qst1_8_r, qst2_8_r, qst1_9_n, qst2_9_n, qst1_9_i, qst2_9_i, qst1_9_r, qst2_9_r, qst1_10_n, qst2_10_n, qst1_10_i, qst2_10_i, qst1_10_r, qst2_10_r, qst1_11_n, qst2_11_n, qst1_11_i, qst2_11_i, qst1_11_r, qst2_11_r, qswE_0, qswE_s, u2_row, z2_row, n32_0_1, n32_0_2, n32_0_3, n32_0_4, n32_0_5, n32_0_6, n32_0_7, n32_0_8, n32_1_0, n32_1_2, n32_1_3, n32_1_4, n32_1_5, n32_1_6, n32_1_7, n32_1_8, n32_2_0, n32_2_1, n32_2_3, n32_2_4, n32_2_5, n32_2_6, n32_2_7, n32_2_8, n32_3_0, n32_3_1, n32_3_2, n32_3_4, n32_3_5, n32_3_6, n32_3_7, n32_3_8, n32_4_0, n32_4_1, n32_4_2, n32_4_3, n32_4_5, n32_4_6, n32_4_7, n32_4_8, n32_5_0, n32_5_1, n32_5_2, n32_5_3, n32_5_4, n32_5_6, n32_5_7, n32_5_8, n32_6_0, n32_6_1, n32_6_2, n32_6_3, n32_6_4, n32_6_5, n32_6_7, n32_6_8, n32_7_0, n32_7_1, n32_7_2, n32_7_3, n32_7_4, n32_7_5, n32_7_6, n32_7_8, n32_8_0, n32_8_1, n32_8_2, n32_8_3, n32_8_4, n32_8_5, n32_8_6, n32_8_7, n32_m1_0, n32_m1_1, n32_m1_2, n32_m2_0, n32_m2_1, n32_m2_2, n32_m3_0, n32_m3_1, n32_m3_2, n32_m4_0, n32_m4_1, n32_m4_2, n32_m6_0, n32_m6_1, n32_m6_2, n32_m9_0, n32_m9_1, n32_m9_2, true_or, or_true, if_true, if_false, eq_self, and_true, true_and, and_self, reduceCtorEq, not_true_eq_false, not_false_eq_true, or_self, false_or, or_false, false_and, and_false, Option.some.injEq, Prod.mk.injEq, Nat.reduceAdd, Nat.reduceMul, Nat.reduceSub, Nat.reduceLT, Nat.reduceEqDiff, Nat.reduceLeDiff, Int32.reduceAdd, Int32.reduceMul, Int32.reduceSub, Int32.reduceLT, Int32.reduceLE, Int32.reduceOfNat, Int32.reduceToNatClampNeg, reduceIte, Nat.zero_le, Nat.reduceDiv, qhk_0, qhk_1, qhk_2, qhk_3, qhk_4, qhk_5, qhk_6, qhk_7, qhk_8, qhk_9, qhk_10, qhk_11, qhk_12, qhk_13, qhk_14, qhk_15, qhk_16, qhk_17, qhk_18, qhk_19, qhk_20, qhk_21, qhk_22, qhk_23, qhk_24, qhk_25, qhk_26, qhk_27, qhk_28, qhk_29, qhk_30, qhk_31, qhk_32, qhk_33, qhk_34, qhk_35, qhk_36, qhk_37, qhk_38, qhk_39, qhk_40, qhk_41, qhk_42, qhk_43, qhk_44, qhk_45, qhk_46, qhk_47, qhk_48, qhk_49, qhk_50, qhk_51, qhk_52, qhk_53, qhk_54, qhk_55, qhk_56, qhk_57, qhk_58, qhk_59, qhk_60, qhk_61, qhk_62, qhk_63, qhk_64, qhk_65, qhk_66, qhk_67, qhk_68, qhk_69, qhk_70, qhk_71, qhk_72, qhk_73, qhk_74, qhk_75, qhk_76, qhk_77, qhk_78, qhk_79, qhk_80, qhk_81, qhk_82, qhk_83, qhk_84, qhk_85, qhk_86, qhk_87, qhk_88, qhk_89, qhk_90, qhk_91, qhk_92, qhk_93, qhk_94, qhk_95, qhk_96, pp_0_0, pp_0_1, pp_0_2, pp_0_4, pp_0_5, pp_0_6, pp_0_7, pp_0_8, pp_0_9, pp_1_3, pp_1_4, pp_1_5, pp_1_6, pp_1_7, pp_1_8, pp_1_9, pp_7_1, pp_7_2, pp_7_3, pp_7_4, pp_12_1, pp_12_2, pp_12_3, pp_12_4, pp_17_3, pp_17_4, pp_17_5, pp_17_6, pp_17_7, pp_17_8, pp_17_9, pp_23_1, pp_23_2, pp_23_3, pp_23_4, pp_28_1, pp_28_2, pp_28_3, pp_28_4, pp_33_3, pp_33_4, pp_33_5, pp_33_6, pp_33_7, pp_33_8, pp_33_9, pp_39_1, pp_39_2, pp_39_3, pp_39_4, pp_44_1, pp_44_2, pp_44_3, pp_44_4, pp_49_0, pp_51_0, pp_53_0, pp_53_1, pp_53_2, pp_58_0, pp_58_1, pp_58_4, pp_58_5, pp_58_6, pp_58_7, pp_61_0, pp_61_1, pp_61_2, pp_65_0, pp_68_0, pp_71_0, pp_71_1, pp_71_2, pp_71_3, pp_71_4, pp_71_5, pp_71_6, pp_71_7, pp_71_8, pp_71_9, pp_71_10, pp_71_11, pp_71_12, pp_71_21, pp_71_22, pp_71_23, pp_71_24, pp_71_28, pp_71_32, pp_71_33, pp_71_34, pp_71_35, pp_71_36, pp_71_39, pp_71_40]
  exact key m 0 I (by omega) hM
