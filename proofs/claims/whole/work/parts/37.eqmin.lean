/-! the class's minute and the reference's are one -/
theorem i_le {a b : Int32} : a ≤ b ↔ a.toInt ≤ b.toInt := Int32.le_iff_toInt_le
theorem i_lt {a b : Int32} : a < b ↔ a.toInt < b.toInt := Int32.lt_iff_toInt_lt
theorem i_0 : (0 : Int32).toInt = 0 := rfl
/-- strengths are from 0 to 9999, and 0 beyond the rooms' rows -/
def okR (row : Nat → Int32) : Prop := ∀ j, 0 ≤ (row j).toInt ∧ (row j).toInt ≤ 9999
def z5 (row : Nat → Int32) : Prop := ∀ j, 5 ≤ j → row j = 0
theorem mul_small {a b : Int32} (ha : 0 ≤ a.toInt ∧ a.toInt ≤ 9999) (hb : 0 ≤ b.toInt ∧ b.toInt ≤ 9999) : (a * b).toInt = a.toInt * b.toInt := by
  rw [Int32.toInt_mul]
  have h1 : 0 ≤ a.toInt * b.toInt := Int.mul_nonneg ha.1 hb.1
  have h2 : a.toInt * b.toInt ≤ 9999 * 9999 := Int.mul_le_mul ha.2 hb.2 hb.1 (by decide)
  exact Int.bmod_eq_of_le (by omega) (by omega)
theorem div10 {a : Int32} (ha : 0 ≤ a.toInt) : (a / 10).toInt = a.toInt / 10 := by
  rw [Int32.toInt_div]
  rw [show (10 : Int32).toInt = 10 from rfl]
  have h2 := a.toInt_lt
  rw [Int.tdiv_eq_ediv_of_nonneg ha]
  exact Int.bmod_eq_of_le (by omega) (by omega)
theorem share10 {a b : Int32} (ha : 0 ≤ a.toInt ∧ a.toInt ≤ 9) (hb : 0 ≤ b.toInt ∧ b.toInt ≤ 9999) : 0 ≤ (a * b / 10).toInt ∧ (a * b / 10).toInt ≤ 9999 := by
  have h := mul_small (a := a) (b := b) ⟨ha.1, by omega⟩ hb
  have h1 : 0 ≤ a.toInt * b.toInt := Int.mul_nonneg ha.1 hb.1
  have h2 : a.toInt * b.toInt ≤ 9 * 9999 := Int.mul_le_mul ha.2 hb.2 hb.1 (by decide)
  rw [div10 (by omega), h]
  omega
theorem imn_int (a b : Int32) : (imn a b).toInt = if b.toInt < a.toInt then b.toInt else a.toInt := by
  unfold imn
  by_cases h : b < a
  · rw [if_pos h, if_pos (i_lt.mp h)]
  · rw [if_neg h, if_neg (fun q => h (i_lt.mpr q))]
theorem sub_small {a b : Int32} (ha : 0 ≤ a.toInt) (hb : 0 ≤ b.toInt) : (a - b).toInt = a.toInt - b.toInt := by
  rw [Int32.toInt_sub]
  have h1 := a.toInt_lt
  have h2 := b.toInt_lt
  exact Int.bmod_eq_of_le (by omega) (by omega)
theorem i_tr (x y z : Int32) : x - y = (x - (y + z)) + z := by
  apply Int32.toBitVec_inj.mp
  rw [Int32.toBitVec_sub, Int32.toBitVec_add, Int32.toBitVec_sub, Int32.toBitVec_add]
  bv_omega
theorem i_tr2 (x y a b : Int32) (h : x - a = y - b) : x = y - b + a := by
  rw [← h, Int32.sub_add_cancel]
theorem i_tr3 (m c z : Int32) : m - c + (c + z) = m + z := by
  apply Int32.toBitVec_inj.mp
  rw [Int32.toBitVec_add, Int32.toBitVec_sub, Int32.toBitVec_add, Int32.toBitVec_add]
  bv_omega
/-- one spread: the class stops when nothing is left, and looks at no closed way; that is the reference's -/
theorem sp_eq {FL SR : Nat → Int32} {sp sb : Int32} {hf : Int32} {f n : Nat} (hfl : ∀ j, j < 25 → 0 ≤ (FL j).toInt ∧ (FL j).toInt ≤ 4) (hd : FL (f * 5 + f) = 0) (hh : 0 ≤ hf.toInt ∧ hf.toInt ≤ 9999) (hf5 : f < 5) (hn : n ≤ 5)
    {SR2 : Nat → Int32} (hs : ∀ to, to < 5 → (SR2 (f * 5 + to) = 1 ↔ ¬ (SR (f * 5 + to) = 0 ∧ ¬ nI (f * 5 + to) = sp ∧ ¬ nI (f * 5 + to) = sb))) :
    ∀ (r to : Nat) (a b : Nat → Int32) (l : Int32), to + r = n → 0 ≤ l.toInt ∧ l.toInt ≤ 9999 →
      (spL FL SR hf sp sb f r to (a, l)).2 = (mpL FL SR2 hf f r to (b, l)).2 ∧ (∀ q, (spL FL SR hf sp sb f r to (a, l)).1 q - a q = (mpL FL SR2 hf f r to (b, l)).1 q - b q) ∧ 0 ≤ (mpL FL SR2 hf f r to (b, l)).2.toInt ∧ (mpL FL SR2 hf f r to (b, l)).2.toInt ≤ 9999 := by
  intro r
  induction r with
  | zero => intro to a b l hi hl; exact ⟨rfl, fun q => by show a q - a q = b q - b q; rw [Int32.sub_self, Int32.sub_self], hl⟩
  | succ r ih =>
    intro to a b l hi hl
    have hv := share10 (a := FL (f * 5 + to)) (b := hf) ⟨(hfl _ (by omega)).1, by have := (hfl (f * 5 + to) (by omega)).2; omega⟩ hh
    generalize hvv : FL (f * 5 + to) * hf / 10 = v at hv
    have hmn : imn l v = imn v l := imn_comm l v
    have hmv : 0 ≤ (imn v l).toInt ∧ (imn v l).toInt ≤ l.toInt := by
      rw [imn_int]
      split <;> omega
    by_cases hl0 : l ≤ 0
    · -- nothing is left: the reference adds nothing more
      have hlz : l.toInt = 0 := by rw [i_le, i_0] at hl0; omega
      have hl2 : l = 0 := Int32.toInt_inj.mp hlz
      subst hl2
      have e1 : spL FL SR hf sp sb f (r + 1) to (a, 0) = (a, 0) := by
        show (if (0 : Int32) ≤ 0 then _ else _) = _
        rw [if_pos hl0]
      have hz : ∀ (r to : Nat) (b : Nat → Int32), to + r ≤ 5 → (mpL FL SR2 hf f r to (b, 0)).2 = 0 ∧ ∀ q, (mpL FL SR2 hf f r to (b, 0)).1 q = b q := by
        intro r
        induction r with
        | zero => intro to b _; exact ⟨rfl, fun _ => rfl⟩
        | succ r ih2 =>
          intro to b hto
          have hw := share10 (a := FL (f * 5 + to)) (b := hf) ⟨(hfl _ (by omega)).1, by have := (hfl (f * 5 + to) (by omega)).2; omega⟩ hh
          have hm0 : imn (FL (f * 5 + to) * hf / 10) 0 = 0 := by
            apply Int32.toInt_inj.mp
            rw [imn_int, i_0]
            split <;> omega
          have e2 : mp1 FL SR2 hf f to (b, 0) = (b, 0) := by
            unfold mp1
            split
            · rfl
            · split
              · rfl
              · rw [hm0]
                refine Prod.ext (funext fun q => ?_) (by show (0 : Int32) - 0 = 0; rfl)
                show (if q = to then b to + 0 else b q) = b q
                split
                · rename_i h; rw [h, Int32.add_zero]
                · rfl
          show (mpL FL SR2 hf f r (to + 1) (mp1 FL SR2 hf f to (b, 0))).2 = 0 ∧ ∀ q, (mpL FL SR2 hf f r (to + 1) (mp1 FL SR2 hf f to (b, 0))).1 q = b q
          rw [e2]
          exact ih2 (to + 1) b (by omega)
      obtain ⟨z1, z2⟩ := hz (r + 1) to b (by omega)
      rw [e1, z1]
      refine ⟨rfl, fun q => ?_, by decide, by decide⟩
      rw [z2 q]
      show a q - a q = b q - b q
      rw [Int32.sub_self, Int32.sub_self]
    · have e1 : spL FL SR hf sp sb f (r + 1) to (a, l) = spL FL SR hf sp sb f r (to + 1) (sp1 FL SR hf sp sb f to (a, l)) := by
        show (if l ≤ 0 then _ else _) = _
        rw [if_neg hl0]
      rw [e1]
      show (spL FL SR hf sp sb f r (to + 1) (sp1 FL SR hf sp sb f to (a, l))).2 = (mpL FL SR2 hf f r (to + 1) (mp1 FL SR2 hf f to (b, l))).2 ∧ (∀ q, (spL FL SR hf sp sb f r (to + 1) (sp1 FL SR hf sp sb f to (a, l))).1 q - a q = (mpL FL SR2 hf f r (to + 1) (mp1 FL SR2 hf f to (b, l))).1 q - b q) ∧ 0 ≤ (mpL FL SR2 hf f r (to + 1) (mp1 FL SR2 hf f to (b, l))).2.toInt ∧ (mpL FL SR2 hf f r (to + 1) (mp1 FL SR2 hf f to (b, l))).2.toInt ≤ 9999
      have hfl0 := hfl (f * 5 + to) (by omega)
      -- a step that moves v on both sides
      have step : ∀ (w : Int32), 0 ≤ w.toInt → w.toInt ≤ l.toInt → sp1 FL SR hf sp sb f to (a, l) = (fun q => if q = to then a to + w else a q, l - w) → mp1 FL SR2 hf f to (b, l) = (fun q => if q = to then b to + w else b q, l - w) →
          (spL FL SR hf sp sb f r (to + 1) (sp1 FL SR hf sp sb f to (a, l))).2 = (mpL FL SR2 hf f r (to + 1) (mp1 FL SR2 hf f to (b, l))).2 ∧ (∀ q, (spL FL SR hf sp sb f r (to + 1) (sp1 FL SR hf sp sb f to (a, l))).1 q - a q = (mpL FL SR2 hf f r (to + 1) (mp1 FL SR2 hf f to (b, l))).1 q - b q) ∧ 0 ≤ (mpL FL SR2 hf f r (to + 1) (mp1 FL SR2 hf f to (b, l))).2.toInt ∧ (mpL FL SR2 hf f r (to + 1) (mp1 FL SR2 hf f to (b, l))).2.toInt ≤ 9999 := by
        intro w hw0 hw1 es em
        rw [es, em]
        have hs2 := sub_small (a := l) (b := w) hl.1 hw0
        obtain ⟨g1, g2, g3⟩ := ih (to + 1) (fun q => if q = to then a to + w else a q) (fun q => if q = to then b to + w else b q) (l - w) (by omega) ⟨by omega, by omega⟩
        refine ⟨g1, fun q => ?_, g3⟩
        have g := g2 q
        have tr : ∀ (x y z : Int32), x - y = (x - (y + z)) + z := i_tr
        by_cases hq : q = to
        · subst hq
          simp only [if_true] at g
          rw [tr _ (a q) w, g, ← tr _ (b q) w]
        · simp only [if_neg hq] at g
          exact g
      have same : sp1 FL SR hf sp sb f to (a, l) = (a, l) → mp1 FL SR2 hf f to (b, l) = (b, l) → _ := fun es em =>
        step 0 (by decide) (by rw [i_0]; exact hl.1) (by rw [es]; refine Prod.ext (funext fun q => ?_) (by show l = l - 0; rw [Int32.sub_zero]); show a q = if q = to then a to + 0 else a q; split; (rename_i h; rw [h, Int32.add_zero]); rfl) (by rw [em]; refine Prod.ext (funext fun q => ?_) (by show l = l - 0; rw [Int32.sub_zero]); show b q = if q = to then b to + 0 else b q; split; (rename_i h; rw [h, Int32.add_zero]); rfl)
      by_cases hto : to = f
      · -- its own room
        subst hto
        refine same ?_ ?_
        · unfold sp1
          rw [hd, if_pos (by decide)]
        · unfold mp1
          rw [if_pos rfl]
      · have hne : ¬ nI to = nI f := fun q => hto ((nI_eq (by omega) (by omega)).mp q)
        have hiff := hs to (by omega)
        by_cases hopen : SR (f * 5 + to) = 0 ∧ ¬ nI (f * 5 + to) = sp ∧ ¬ nI (f * 5 + to) = sb
        · have hsr2 : ¬ SR2 (f * 5 + to) = 1 := fun q => (hiff.mp q) hopen
          obtain ⟨o1, o2, o3⟩ := hopen
          by_cases ht : FL (f * 5 + to) ≤ 0
          · -- nothing flows there
            have hz : FL (f * 5 + to) = 0 := Int32.toInt_inj.mp (by rw [i_le, i_0] at ht; rw [i_0]; omega)
            have hv0 : v = 0 := by rw [← hvv, hz, Int32.zero_mul]; rfl
            have hm0 : imn v l = 0 := by
              apply Int32.toInt_inj.mp
              rw [hv0, imn_int, i_0]
              split <;> omega
            refine same ?_ ?_
            · unfold sp1
              rw [if_pos ht]
            · unfold mp1
              rw [if_neg hne, if_neg hsr2, hvv]
              dsimp only
              rw [hm0]
              refine Prod.ext (funext fun q => ?_) (by show l - 0 = l; rw [Int32.sub_zero])
              show (if q = to then b to + 0 else b q) = b q
              split
              · rename_i h; rw [h, Int32.add_zero]
              · rfl
          · refine step (imn v l) hmv.1 hmv.2 ?_ ?_
            · unfold sp1
              rw [if_neg ht, if_pos o1, if_neg o2, if_neg o3, hvv]
              dsimp only
              rw [hmn]
            · unfold mp1
              rw [if_neg hne, if_neg hsr2, hvv]
        · have hsr2 : SR2 (f * 5 + to) = 1 := hiff.mpr hopen
          refine same ?_ ?_
          · unfold sp1
            split
            · rfl
            · split
              · rename_i h1
                split
                · rfl
                · rename_i h2
                  split
                  · rfl
                  · rename_i h3
                    exact absurd ⟨h1, h2, h3⟩ hopen
              · rfl
          · unfold mp1
            rw [if_neg hne, if_pos hsr2]
