/-! what is given: one in class and reference -/
theorem lit_int (n : Nat) (h : n < 2 ^ 31) : (nI n).toInt = (n : Int) := nI_toInt h
theorem div_small {a b : Int32} (ha : 0 ≤ a.toInt) (hb : 0 < b.toInt) : (a / b).toInt = a.toInt / b.toInt := by
  rw [Int32.toInt_div, Int.tdiv_eq_ediv_of_nonneg ha]
  have h2 := a.toInt_lt
  have h3 : a.toInt / b.toInt ≤ a.toInt := Int.ediv_le_self _ ha
  have h4 : 0 ≤ a.toInt / b.toInt := Int.ediv_nonneg ha (by omega)
  exact Int.bmod_eq_of_le (by omega) (by omega)
/-- what sources are -/
def okK (c n : Nat) (K P S F : Nat → Int32) : Prop := ∀ i, i < c → (∃ p, p < n ∧ P i = nI p) ∧ (0 ≤ (S i).toInt ∧ (S i).toInt ≤ 99) ∧ (0 ≤ (F i).toInt ∧ (F i).toInt ≤ 9)
theorem fg_pos {fg : Int32} (h : 0 ≤ fg.toInt ∧ fg.toInt ≤ 9) : (fg + 1).toInt = fg.toInt + 1 := by
  have := add_small (a := fg) (b := 1) ⟨h.1, by omega⟩ ⟨by decide, by decide⟩
  rw [this]
  rfl
theorem dy_eq {st fg t : Int32} (hs : 0 ≤ st.toInt ∧ st.toInt ≤ 99) (hf : 0 ≤ fg.toInt ∧ fg.toInt ≤ 9) (ht : 0 ≤ t.toInt ∧ t.toInt ≤ 1000000) : dyC st fg t = dyM st fg t ∧ 0 ≤ (dyC st fg t).toInt ∧ (dyC st fg t).toInt ≤ 990 := by
  have hp := fg_pos hf
  have h2 : (2 * (fg + 1)).toInt = 2 * (fg.toInt + 1) := by
    have := mul_small (a := 2) (b := fg + 1) ⟨by decide, by decide⟩ ⟨by omega, by omega⟩
    rw [this, hp]
    rfl
  have bnd : ∀ age : Int32, 0 ≤ age.toInt ∧ age.toInt ≤ 10 → 0 ≤ (st * age / (fg + 1)).toInt ∧ (st * age / (fg + 1)).toInt ≤ 990 := by
    intro age ha
    have hm := mul_small (a := st) (b := age) ⟨hs.1, by omega⟩ ⟨ha.1, by omega⟩
    have h1 : 0 ≤ st.toInt * age.toInt := Int.mul_nonneg hs.1 ha.1
    have h3 : st.toInt * age.toInt ≤ 99 * 10 := Int.mul_le_mul hs.2 ha.2 ha.1 (by decide)
    rw [div_small (by omega) (by omega), hm]
    exact ⟨Int.ediv_nonneg h1 (by omega), by have := Int.ediv_le_self (a := st.toInt * age.toInt) (fg + 1).toInt h1; omega⟩
  unfold dyC dyM
  by_cases h : fg + 1 < t
  · have h' := i_lt.mp h
    rw [if_pos h, if_pos h]
    have h3 : (2 * (fg + 1) - t).toInt = 2 * (fg.toInt + 1) - t.toInt := by
      rw [sub_small (by omega) ht.1, h2]
    by_cases h4 : 0 ≤ 2 * (fg + 1) - t
    · have h4' := i_le.mp h4
      rw [i_0, h3] at h4'
      have e : imx 0 (2 * (fg + 1) - t) = 2 * (fg + 1) - t := by
        unfold imx
        by_cases h5 : 0 < 2 * (fg + 1) - t
        · rw [if_pos h5]
        · rw [if_neg h5]
          have h5' : ¬ (0 : Int32).toInt < (2 * (fg + 1) - t).toInt := fun q => h5 (i_lt.mpr q)
          exact Int32.toInt_inj.mp (by rw [i_0] at h5' ⊢; omega)
      rw [e, if_pos h4]
      exact ⟨rfl, bnd _ (by rw [h3]; omega)⟩
    · have h4' : ¬ (0 : Int32).toInt ≤ (2 * (fg + 1) - t).toInt := fun q => h4 (i_le.mpr q)
      rw [i_0] at h4'
      have e : imx 0 (2 * (fg + 1) - t) = 0 := by
        unfold imx
        rw [if_neg (fun q => h4' (by have := i_lt.mp q; rw [i_0] at this; omega))]
      rw [e, if_neg h4]
      have hz : st * 0 / (fg + 1) = 0 := by
        rw [Int32.mul_zero]
        exact Int32.toInt_inj.mp (by rw [div_small (by decide) (by omega), i_0, Int.zero_ediv])
      exact ⟨hz, bnd 0 ⟨by decide, by decide⟩⟩
  · have h' : ¬ (fg + 1).toInt < t.toInt := fun q => h (i_lt.mpr q)
    rw [if_neg h, if_neg h, if_pos (i_le.mpr (by rw [i_0]; exact ht.1))]
    exact ⟨rfl, bnd t ⟨ht.1, by omega⟩⟩
theorem giv_eq {kd st fg t w : Int32} (hs : 0 ≤ st.toInt ∧ st.toInt ≤ 99) (hf : 0 ≤ fg.toInt ∧ fg.toInt ≤ 9) (ht : 0 ≤ t.toInt ∧ t.toInt ≤ 1000000) : givn kd st fg t w = givm kd st fg t w ∧ 0 ≤ (givn kd st fg t w).toInt ∧ (givn kd st fg t w).toInt ≤ 990 := by
  have hd := dy_eq hs hf ht
  unfold givn givm
  have hst : 0 ≤ st.toInt ∧ st.toInt ≤ 990 := ⟨hs.1, by omega⟩
  have h0 : 0 ≤ (0 : Int32).toInt ∧ (0 : Int32).toInt ≤ 990 := ⟨by decide, by decide⟩
  have hh : 0 ≤ ((st + 1) / 2).toInt ∧ ((st + 1) / 2).toInt ≤ 990 := by
    have h1 := add_small (a := st) (b := 1) ⟨hs.1, by omega⟩ ⟨by decide, by decide⟩
    have e1 : (1 : Int32).toInt = 1 := rfl
    have e2 : (2 : Int32).toInt = 2 := rfl
    rw [div_small (by omega) (by decide), h1, e1, e2]
    omega
  split
  · exact ⟨rfl, hst⟩
  · split
    · split
      · exact ⟨rfl, hst⟩
      · exact ⟨rfl, h0⟩
    · split
      · split
        · exact ⟨rfl, hst⟩
        · exact ⟨rfl, h0⟩
      · split
        · exact hd
        · split
          · exact ⟨rfl, hst⟩
          · split
            · exact ⟨rfl, hh⟩
            · exact ⟨rfl, h0⟩
theorem tgt_eq {kd : Int32} {p n : Nat} (hp : p < n) (hn : n ≤ 5) : tgtC kd (nI p) (nI n) = tgtM kd (nI p) (nI n) ∧ ∃ j, j < n ∧ tgtC kd (nI p) (nI n) = nI j := by
  unfold tgtC tgtM
  split
  · rw [nI_1, pk_rem (by omega) (by omega) (by omega)]
    split
    · rename_i q
      rw [nI_leI (by omega) (by omega)] at q
      have e : p + 1 = n := by omega
      rw [e, Nat.mod_self]
      exact ⟨rfl, 0, by omega, rfl⟩
    · rename_i q
      rw [nI_leI (by omega) (by omega)] at q
      rw [Nat.mod_eq_of_lt (by omega)]
      exact ⟨rfl, p + 1, by omega, rfl⟩
  · exact ⟨rfl, p, hp, rfl⟩
def actC (g : Int32) (i : Nat) : Prop := (g >>> (nI i &&& 31)) &&& 1 = 1
theorem gv_eq {K P S F : Nat → Int32} {c n : Nat} {t w g tp tp2 lo on : Int32} (hn : n ≤ 5) (hK : okK c n K P S F) (ht : 0 ≤ t.toInt ∧ t.toInt ≤ 1000000) (ha : ∀ i, i < c → (actC g i ↔ ¬ nI i = lo ∧ (on < 0 ∨ nI i = on))) (htp : ∀ j, j < n → (nI j = tp ↔ nI j = tp2)) :
    ∀ (r i : Nat) (row : Nat → Int32), i + r = c → okS n row → gvF K P S F (nI n) t w g tp r i row = gmF K P S F (nI n) t w tp2 lo on r i row ∧ okS n (gvF K P S F (nI n) t w g tp r i row) := by
  intro r
  induction r with
  | zero => intro i row _ h; exact ⟨rfl, h⟩
  | succ r ih =>
    intro i row hi hrow
    obtain ⟨⟨p, hp, hP⟩, hS, hFi⟩ := hK i (by omega)
    obtain ⟨t1, j, hj, t2⟩ := tgt_eq (kd := K i) hp hn
    obtain ⟨g1, g2⟩ := giv_eq (kd := K i) (w := w) hS hFi ht
    have hact := ha i (by omega)
    have ht2 := htp j hj
    have hcl : (nI j).toNatClampNeg = j := nI_clamp (by omega)
    have e : gv1 K P S F (nI n) t w g tp i row = gm1 K P S F (nI n) t w tp2 lo on i row ∧ okS n (gv1 K P S F (nI n) t w g tp i row) := by
      unfold gv1 gm1
      rw [hP, ← t1, t2, ← g1, hcl]
      have hup : okS n (fun q => if q = j then imn 9999 (row j + givn (K i) (S i) (F i) t w) else row q) := by
        refine ⟨fun q => ?_, fun q hq => ?_⟩
        · show 0 ≤ (if q = j then _ else _ : Int32).toInt ∧ _
          by_cases h : q = j
          · simp only [if_pos h]
            rw [imn_int, show (9999 : Int32).toInt = 9999 from rfl]
            have h1 := hrow.1 j
            have h2 := add_small (a := row j) (b := givn (K i) (S i) (F i) t w) ⟨h1.1, by omega⟩ ⟨g2.1, by omega⟩
            split <;> omega
          · simp only [if_neg h]
            exact hrow.1 q
        · show (if q = j then _ else _) = _
          rw [if_neg (by omega)]
          exact hrow.2 q hq
      unfold actC at hact
      by_cases h1 : (g >>> (nI i &&& 31)) &&& 1 = 1
      · obtain ⟨a1, a2⟩ := hact.mp h1
        rw [if_pos h1, if_neg a1, if_pos a2]
        by_cases h2 : nI j = tp
        · rw [if_pos h2, if_pos (ht2.mp h2)]
          exact ⟨rfl, hrow⟩
        · rw [if_neg h2, if_neg (fun q => h2 (ht2.mpr q)), if_neg (by rw [isR_1 hj (by omega)]; decide)]
          exact ⟨rfl, hup⟩
      · rw [if_neg h1]
        refine ⟨?_, hrow⟩
        split
        · rfl
        · split
          · rfl
          · rename_i a1
            split
            · rename_i a2
              exact absurd (hact.mpr ⟨a1, a2⟩) h1
            · rfl
    show gvF K P S F (nI n) t w g tp r (i + 1) (gv1 K P S F (nI n) t w g tp i row) = gmF K P S F (nI n) t w tp2 lo on r (i + 1) (gm1 K P S F (nI n) t w tp2 lo on i row) ∧ okS n (gvF K P S F (nI n) t w g tp r (i + 1) (gv1 K P S F (nI n) t w g tp i row))
    rw [← e.1]
    exact ih (i + 1) _ (by omega) e.2
