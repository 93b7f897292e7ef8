/-! a whole minute: one row, in its bounds -/
theorem sp_bnd {FL SR : Nat → Int32} {sp sb : Int32} {hf : Int32} {f n : Nat} (hfl : ∀ j, j < 25 → 0 ≤ (FL j).toInt ∧ (FL j).toInt ≤ 4) (hd : FL (f * 5 + f) = 0) (hh : 0 ≤ hf.toInt ∧ hf.toInt ≤ 9999) (hf5 : f < 5) (hn : n ≤ 5) :
    ∀ (r to : Nat) (a : Nat → Int32) (l : Int32), to + r = n → 0 ≤ l.toInt ∧ l.toInt ≤ 9999 → (0 ≤ (spL FL SR hf sp sb f r to (a, l)).2.toInt ∧ (spL FL SR hf sp sb f r to (a, l)).2.toInt ≤ 9999) ∧
      ∀ q, ∃ w : Int32, (spL FL SR hf sp sb f r to (a, l)).1 q = a q + w ∧ 0 ≤ w.toInt ∧ w.toInt ≤ 9999 ∧ (q < to ∨ n ≤ q ∨ q = f → w = 0) := by
  intro r
  induction r with
  | zero => intro to a l _ hl; exact ⟨hl, fun q => ⟨0, (Int32.add_zero _).symm, by decide, by decide, fun _ => rfl⟩⟩
  | succ r ih =>
    intro to a l hi hl
    have same : spL FL SR hf sp sb f (r + 1) to (a, l) = (a, l) → (0 ≤ (spL FL SR hf sp sb f (r + 1) to (a, l)).2.toInt ∧ (spL FL SR hf sp sb f (r + 1) to (a, l)).2.toInt ≤ 9999) ∧
      ∀ q, ∃ w : Int32, (spL FL SR hf sp sb f (r + 1) to (a, l)).1 q = a q + w ∧ 0 ≤ w.toInt ∧ w.toInt ≤ 9999 ∧ (q < to ∨ n ≤ q ∨ q = f → w = 0) := by
      intro e
      rw [e]
      exact ⟨hl, fun q => ⟨0, (Int32.add_zero _).symm, by decide, by decide, fun _ => rfl⟩⟩
    by_cases hl0 : l ≤ 0
    · exact same (by show (if l ≤ 0 then _ else _) = _; rw [if_pos hl0])
    · have e1 : spL FL SR hf sp sb f (r + 1) to (a, l) = spL FL SR hf sp sb f r (to + 1) (sp1 FL SR hf sp sb f to (a, l)) := by
        show (if l ≤ 0 then _ else _) = _
        rw [if_neg hl0]
      rw [e1]
      have keep : sp1 FL SR hf sp sb f to (a, l) = (a, l) → (0 ≤ (spL FL SR hf sp sb f r (to + 1) (sp1 FL SR hf sp sb f to (a, l))).2.toInt ∧ (spL FL SR hf sp sb f r (to + 1) (sp1 FL SR hf sp sb f to (a, l))).2.toInt ≤ 9999) ∧
        ∀ q, ∃ w : Int32, (spL FL SR hf sp sb f r (to + 1) (sp1 FL SR hf sp sb f to (a, l))).1 q = a q + w ∧ 0 ≤ w.toInt ∧ w.toInt ≤ 9999 ∧ (q < to ∨ n ≤ q ∨ q = f → w = 0) := by
        intro e
        rw [e]
        obtain ⟨g1, g2⟩ := ih (to + 1) a l (by omega) hl
        refine ⟨g1, fun q => ?_⟩
        obtain ⟨w, w1, w2, w3, w4⟩ := g2 q
        exact ⟨w, w1, w2, w3, fun z => w4 (by omega)⟩
      unfold sp1 at keep ⊢
      by_cases q1 : FL (f * 5 + to) ≤ 0
      · rw [if_pos q1] at keep ⊢; exact keep rfl
      · rw [if_neg q1] at keep ⊢
        by_cases q2 : SR (f * 5 + to) = 0
        · rw [if_pos q2] at keep ⊢
          by_cases q3 : nI (f * 5 + to) = sp
          · rw [if_pos q3] at keep ⊢; exact keep rfl
          · rw [if_neg q3] at keep ⊢
            by_cases q4 : nI (f * 5 + to) = sb
            · rw [if_pos q4] at keep ⊢; exact keep rfl
            · rw [if_neg q4]
              have hv := share10 (a := FL (f * 5 + to)) (b := hf) ⟨(hfl _ (by omega)).1, by have := (hfl (f * 5 + to) (by omega)).2; omega⟩ hh
              generalize FL (f * 5 + to) * hf / 10 = v at hv
              have hm : 0 ≤ (imn l v).toInt ∧ (imn l v).toInt ≤ l.toInt := by
                rw [imn_int]
                split <;> omega
              dsimp only
              generalize imn l v = w0 at hm
              have hs2 := sub_small (a := l) (b := w0) hl.1 hm.1
              obtain ⟨g1, g2⟩ := ih (to + 1) (fun q => if q = to then a to + w0 else a q) (l - w0) (by omega) ⟨by omega, by omega⟩
              refine ⟨g1, fun q => ?_⟩
              obtain ⟨w, w1, w2, w3, w4⟩ := g2 q
              by_cases hq : q = to
              · subst hq
                have w0z := w4 (Or.inl (by omega))
                subst w0z
                refine ⟨w0, by rw [w1, if_pos rfl, Int32.add_zero], hm.1, by omega, fun z => ?_⟩
                rcases z with z | z | z
                · omega
                · omega
                · subst z
                  rw [hd] at q1
                  exact absurd (by decide) q1
              · rw [if_neg hq] at w1
                exact ⟨w, w1, w2, w3, fun z => w4 (by omega)⟩
        · rw [if_neg q2] at keep ⊢; exact keep rfl
theorem add_small {a b : Int32} (ha : 0 ≤ a.toInt ∧ a.toInt ≤ 1000000) (hb : 0 ≤ b.toInt ∧ b.toInt ≤ 1000000) : (a + b).toInt = a.toInt + b.toInt := by
  rw [Int32.toInt_add]
  exact Int.bmod_eq_of_le (by omega) (by omega)
/-- rows of strengths: in bounds, and 0 where there is no room -/
def okS (n : Nat) (row : Nat → Int32) : Prop := (∀ j, 0 ≤ (row j).toInt ∧ (row j).toInt ≤ 9999) ∧ ∀ j, n ≤ j → row j = 0
/-- flows and what goes out -/
def okF (FL O : Nat → Int32) : Prop := (∀ j, j < 25 → 0 ≤ (FL j).toInt ∧ (FL j).toInt ≤ 4) ∧ (∀ f, f < 5 → FL (f * 5 + f) = 0) ∧ ∀ f, f < 5 → 0 ≤ (O f).toInt ∧ (O f).toInt ≤ 9
def clo (SR SR2 : Nat → Int32) (sp sb : Int32) : Prop := ∀ f to, f < 5 → to < 5 → (SR2 (f * 5 + to) = 1 ↔ ¬ (SR (f * 5 + to) = 0 ∧ ¬ nI (f * 5 + to) = sp ∧ ¬ nI (f * 5 + to) = sb))
theorem own_bnd {O h l : Int32} (hO : 0 ≤ O.toInt ∧ O.toInt ≤ 9) (hh : 0 ≤ h.toInt ∧ h.toInt ≤ 9999) (hl : 0 ≤ l.toInt ∧ l.toInt ≤ 9999) : 0 ≤ (l - imn l (O * h / 10)).toInt ∧ (l - imn l (O * h / 10)).toInt ≤ 9999 := by
  have hv := share10 hO hh
  generalize O * h / 10 = v at hv
  have hm : 0 ≤ (imn l v).toInt ∧ (imn l v).toInt ≤ l.toInt := by
    rw [imn_int]
    split <;> omega
  have := sub_small (a := l) (b := imn l v) hl.1 hm.1
  omega
theorem all_eq {FL SR SR2 O g H : Nat → Int32} {sp sb : Int32} {n : Nat} (hn : n ≤ 5) (hF : okF FL O) (hC : clo SR SR2 sp sb) (hg : ∀ j, 0 ≤ (g j).toInt ∧ (g j).toInt ≤ 9999) (hH : ∀ j, j < n → H j = g j) :
    ∀ (r f : Nat) (row cm st : Nat → Int32), f + r = n → (∀ q, q < n → row q = cm q + (if q < f then st q else 0)) → (∀ q, q < n → 0 ≤ (row q).toInt ∧ (row q).toInt ≤ 9999 * f) →
      (∀ q, q < n → spA FL SR O g sp sb n r f row q = (mpA FL SR2 O H n r f (cm, st)).1 q + (mpA FL SR2 O H n r f (cm, st)).2 q) ∧ (∀ q, q < n → 0 ≤ (spA FL SR O g sp sb n r f row q).toInt ∧ (spA FL SR O g sp sb n r f row q).toInt ≤ 9999 * n) ∧
      (∀ q, n ≤ q → spA FL SR O g sp sb n r f row q = row q) ∧ ∀ q, n ≤ q → (mpA FL SR2 O H n r f (cm, st)).2 q = st q := by
  intro r
  induction r with
  | zero =>
    intro f row cm st hi hrow hb
    have : f = n := by omega
    subst this
    exact ⟨fun q hq => by rw [show spA FL SR O g sp sb f 0 f row q = row q from rfl, hrow q hq, if_pos hq]; rfl, fun q hq => hb q hq, fun q _ => rfl, fun q _ => rfl⟩
  | succ r ih =>
    intro f row cm st hi hrow hb
    have hgf := hg f
    have hHf := hH f (by omega)
    have hop := fun to hto => hC f to (by omega) hto
    obtain ⟨e1, e2, e3⟩ := sp_eq (SR2 := SR2) hF.1 (hF.2.1 f (by omega)) hgf (by omega) hn hop n 0 row cm (g f) (by omega) hgf
    obtain ⟨b1, b2⟩ := sp_bnd (SR := SR) (sp := sp) (sb := sb) hF.1 (hF.2.1 f (by omega)) hgf (by omega) hn n 0 row (g f) (by omega) hgf
    show (∀ q, q < n → spA FL SR O g sp sb n r (f + 1) (spE O (g f) f (spL FL SR (g f) sp sb f n 0 (row, g f))) q = (mpA FL SR2 O H n r (f + 1) ((mpL FL SR2 (H f) f n 0 (cm, H f)).1, fun q => if q = f then (mpL FL SR2 (H f) f n 0 (cm, H f)).2 - imn (O f * H f / 10) (mpL FL SR2 (H f) f n 0 (cm, H f)).2 else st q)).1 q + (mpA FL SR2 O H n r (f + 1) ((mpL FL SR2 (H f) f n 0 (cm, H f)).1, fun q => if q = f then (mpL FL SR2 (H f) f n 0 (cm, H f)).2 - imn (O f * H f / 10) (mpL FL SR2 (H f) f n 0 (cm, H f)).2 else st q)).2 q) ∧ (∀ q, q < n → 0 ≤ (spA FL SR O g sp sb n r (f + 1) (spE O (g f) f (spL FL SR (g f) sp sb f n 0 (row, g f))) q).toInt ∧ (spA FL SR O g sp sb n r (f + 1) (spE O (g f) f (spL FL SR (g f) sp sb f n 0 (row, g f))) q).toInt ≤ 9999 * n) ∧ (∀ q, n ≤ q → spA FL SR O g sp sb n r (f + 1) (spE O (g f) f (spL FL SR (g f) sp sb f n 0 (row, g f))) q = row q) ∧ ∀ q, n ≤ q → (mpA FL SR2 O H n r (f + 1) ((mpL FL SR2 (H f) f n 0 (cm, H f)).1, fun q => if q = f then (mpL FL SR2 (H f) f n 0 (cm, H f)).2 - imn (O f * H f / 10) (mpL FL SR2 (H f) f n 0 (cm, H f)).2 else st q)).2 q = st q
    rw [hHf]
    generalize spL FL SR (g f) sp sb f n 0 (row, g f) = Ls at e1 e2 b1 b2
    generalize mpL FL SR2 (g f) f n 0 (cm, g f) = Ms at e1 e2 e3
    have ho := own_bnd (hF.2.2 f (by omega)) hgf b1
    have tr2 : ∀ (x y a b : Int32), x - a = y - b → x = y - b + a := i_tr2
    have hown : Ls.2 - imn Ls.2 (O f * g f / 10) = Ms.2 - imn (O f * g f / 10) Ms.2 := by rw [e1, imn_comm]
    obtain ⟨g1, g2, g3, g4⟩ := ih (f + 1) (spE O (g f) f Ls) Ms.1 (fun q => if q = f then Ms.2 - imn (O f * g f / 10) Ms.2 else st q) (by omega)
      (by
        intro q hq
        have hx := tr2 _ _ _ _ (e2 q)
        unfold spE
        by_cases hqf : q = f
        · subst hqf
          rw [if_pos rfl, if_pos (by omega)]
          simp only [if_true]
          rw [hown, hx, hrow q hq, if_neg (by omega), Int32.add_zero, Int32.sub_add_cancel]
        · rw [if_neg hqf]
          simp only [if_neg hqf]
          rw [hx, hrow q hq, i_tr3]
          refine congrArg (fun z => Ms.1 q + z) ?_
          by_cases h1 : q < f
          · rw [if_pos h1, if_pos (by omega)]
          · rw [if_neg h1, if_neg (by omega)])
      (by
        intro q hq
        obtain ⟨w, w1, w2, w3, w4⟩ := b2 q
        have hbq := hb q hq
        unfold spE
        by_cases hqf : q = f
        · subst hqf
          rw [if_pos rfl]
          have wz := w4 (Or.inr (Or.inr rfl))
          subst wz
          rw [w1, Int32.add_zero]
          have := add_small (a := row q) (b := Ls.2 - imn Ls.2 (O q * g q / 10)) ⟨hbq.1, by omega⟩ ⟨ho.1, by omega⟩
          omega
        · rw [if_neg hqf, w1]
          have := add_small (a := row q) (b := w) ⟨hbq.1, by omega⟩ ⟨w2, by omega⟩
          omega)
    refine ⟨g1, g2, fun q hq => ?_, fun q hq => ?_⟩
    · rw [g3 q hq]
      unfold spE
      rw [if_neg (by omega)]
      obtain ⟨w, w1, w2, w3, w4⟩ := b2 q
      rw [w1, w4 (Or.inr (Or.inl hq)), Int32.add_zero]
    · rw [g4 q hq]
      exact if_neg (by omega)
/-- THE MINUTE: the class's and the reference's strengths are one row, in its bounds -/
theorem min_eq {FL SR SR2 O g H cm : Nat → Int32} {sp sb : Int32} {n : Nat} (hn : n ≤ 5) (hF : okF FL O) (hC : clo SR SR2 sp sb) (hg : okS n g) (hH : ∀ j, j < n → H j = g j) (hcm : ∀ j, j < n → cm j = 0) :
    minC FL SR O sp sb n g = minM FL SR2 O n H cm g ∧ okS n (minC FL SR O sp sb n g) := by
  obtain ⟨g1, g2, g3, g4⟩ := all_eq (SR2 := SR2) (H := H) hn hF hC hg.1 hH n 0 (zr5 g) cm g (by omega) (fun q hq => by
    unfold zr5
    rw [if_pos (by omega), hcm q hq, if_neg (by omega)]
    rfl) (fun q hq => by
    unfold zr5
    rw [if_pos (by omega)]
    exact ⟨by decide, by show (0 : Int) ≤ 9999 * ((0 : Nat) : Int); omega⟩)
  have hz : ∀ q, n ≤ q → minC FL SR O sp sb n g q = 0 := by
    intro q hq
    unfold minC capR
    rw [if_neg (by omega), g3 q hq]
    unfold zr5
    split
    · rfl
    · exact hg.2 q hq
  refine ⟨funext fun q => ?_, fun q => ?_, hz⟩
  · by_cases hq : q < n
    · unfold minC capR minM
      rw [if_pos hq, if_pos hq, g1 q hq, Int32.add_comm]
    · rw [hz q (by omega)]
      unfold minM
      rw [if_neg hq, g4 q (by omega)]
      exact (hg.2 q (by omega)).symm
  · by_cases hq : q < n
    · unfold minC capR
      rw [if_pos hq, imn_int]
      have := g2 q hq
      rw [show (9999 : Int32).toInt = 9999 from rfl]
      split <;> omega
    · rw [hz q (by omega)]
      exact ⟨by decide, by decide⟩
