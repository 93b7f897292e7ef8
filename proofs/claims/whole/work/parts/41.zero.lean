/-! no row holds anything behind its end -/
def ZH (σ : SH) : Prop := ∀ b n, σ.1[b]? = some (1, n) → ∀ j, n ≤ j → σ.2.2.1 b j = 0
theorem ZH.push {σ σ1 : SH} {t : Nat × Nat} (hz : ZH σ) (h1 : σ1.1 = σ.1 ++ [t]) (hi : ∀ k, k ≠ σ.1.length → σ1.2.2.1 k = σ.2.2.1 k) (hn : t.1 = 1 → ∀ j, σ1.2.2.1 σ.1.length j = 0) : ZH σ1 := by
  intro b n hb j hj
  rw [h1] at hb
  by_cases hk : b < σ.1.length
  · rw [List.getElem?_append_left hk] at hb
    rw [hi b (by omega)]
    exact hz b n hb j hj
  · have h2 : b < (σ.1 ++ [t]).length := (List.getElem?_eq_some_iff.mp hb).1
    rw [List.length_append] at h2
    have h3 : b = σ.1.length := by
      have : [t].length = 1 := rfl
      omega
    subst h3
    rw [List.getElem?_append_right (Nat.le_refl _), Nat.sub_self] at hb
    cases hb
    exact hn rfl j
theorem zh_pf {ci j pc pc' : Nat} {ls ls' : LS0} {st st' : List Value} {σ σ1 : SH} (h : oPf ci j pc ls st σ = some (.inl (pc', ls', st', σ1))) (hz : ZH σ) : ZH σ1 := by
  have key : ∀ (q b : Nat) (v : Int32) (P : Nat → Nat → Option Nat), hk σ b = some (0, ci) → ZH (σ.1, P, u2 σ.2.2.1 b q v, σ.2.2.2) := by
    intro q b v P hb c n hc i hi
    obtain ⟨-, hb4⟩ := hk_spec hb
    have hne : c ≠ b := by
      intro e
      subst e
      rw [show (σ.1, P, u2 σ.2.2.1 c q v, σ.2.2.2).1 = σ.1 from rfl, hb4] at hc
      cases hc
    show u2 σ.2.2.1 b q v c i = 0
    rw [u2_ne _ _ _ hne]
    exact hz c n hc i hi
  unfold oPf at h
  split at h
  · split at h
    · rename_i hb
      split at h
      · cases h; exact key _ _ _ _ hb
      · split at h
        · cases h; exact key _ _ _ _ hb
        · cases h
    · cases h
  · split at h
    · split at h
      · cases h; exact hz
      · cases h
    · cases h
  · cases h
theorem zh_iast {pc pc' : Nat} {ls ls' : LS0} {st st' : List Value} {σ σ1 : SH} (h : oIast pc ls st σ = some (.inl (pc', ls', st', σ1))) (hz : ZH σ) : ZH σ1 := by
  unfold oIast at h
  split at h
  · rename_i v i b r
    split at h
    · rename_i n hb
      split at h
      · rename_i hin
        cases h
        obtain ⟨-, hb4⟩ := hk_spec hb
        intro c m hc j hj
        show u2 σ.2.2.1 b i.toNatClampNeg v c j = 0
        by_cases hcb : c = b
        · subst hcb
          rw [show (σ.1, σ.2.1, u2 σ.2.2.1 c i.toNatClampNeg v, σ.2.2.2).1 = σ.1 from rfl, hb4] at hc
          cases hc
          rw [u2_off _ _ _ (by omega)]
          exact hz c _ hb4 j hj
        · rw [u2_ne _ _ _ hcb]
          exact hz c m hc j hj
      · cases h
    · cases h
  · cases h
theorem zh_cpy {pc pc' : Nat} {ls ls' : LS0} {st st' : List Value} {σ σ1 : SH} (h : oCpy pc ls st σ = some (.inl (pc', ls', st', σ1))) (hz : ZH σ) : ZH σ1 := by
  unfold oCpy at h
  split at h
  · rename_i n d b s a
    split at h
    · rename_i p q ha hb
      split at h
      · rename_i hc
        obtain ⟨-, rfl, -, -, -⟩ := hc
        cases h
        obtain ⟨-, ha4⟩ := hk_spec ha
        obtain ⟨-, hb4⟩ := hk_spec hb
        intro c m hc j hj
        show z2 σ.2.2.1 b (σ.2.2.1 a) c j = 0
        by_cases hcb : c = b
        · subst hcb
          rw [show (σ.1, σ.2.1, z2 σ.2.2.1 c (σ.2.2.1 a), σ.2.2.2).1 = σ.1 from rfl, hb4] at hc
          cases hc
          rw [z2_self]
          exact hz a _ ha4 j hj
        · rw [z2_ne _ _ hcb]
          exact hz c m hc j hj
      · cases h
    · cases h
  · cases h
theorem zh_step {X : SX} {k pc pc' : Nat} {r : RI} {ls ls' : LS0} {st st' : List Value} {σ σ1 : SH} (h : stepI X k pc r ls st σ = some (.inl (pc', ls', st', σ1))) (hz : ZH σ) : ZH σ1 := by
  obtain ⟨ins, len, a, v0, tb⟩ := r
  cases ins
  case putfield =>
    simp only [stepI] at h
    split at h
    · exact zh_pf h hz
    · cases h
  case iastore => exact zh_iast h hz
  case lastore =>
    replace h : oLast (pc + 1) ls st σ = some (.inl (pc', ls', st', σ1)) := h
    unfold oLast at h
    (repeat' split at h) <;> first | (cases h; done) | (cases h; exact hz)
  case new =>
    simp only [stepI] at h
    split at h
    · unfold oNew at h
      split at h
      · cases h
        exact hz.push rfl (fun k hk => z2_ne _ _ hk) (fun q => by cases q)
      · cases h
    · cases h
  case newarray at0 =>
    cases at0
    case int =>
      replace h : oNewI (pc + 2) ls st σ = some (.inl (pc', ls', st', σ1)) := h
      unfold oNewI at h
      split at h
      · split at h
        · cases h
          exact hz.push rfl (fun k hk => z2_ne _ _ hk) (fun _ j => by show z2 σ.2.2.1 σ.1.length (fun _ => 0) σ.1.length j = 0; rw [z2_self])
        · cases h
      · cases h
    case long =>
      replace h : oNewL (pc + 2) ls st σ = some (.inl (pc', ls', st', σ1)) := h
      unfold oNewL at h
      split at h
      · split at h
        · cases h
          exact hz.push rfl (fun k hk => rfl) (fun q => by cases q)
        · cases h
      · cases h
    all_goals cases h
  case tableswitch =>
    simp only [stepI, oSw] at h
    split at h
    · obtain ⟨t, ht⟩ := swX_nx (x := _) (d := _) (ls := _) (st := _) (σ := _) tb
      rw [ht] at h
      unfold nx at h
      cases h
      exact hz
    · cases h
  case invokestatic =>
    simp only [stepI] at h
    split at h
    · exact zh_cpy h hz
    · unfold oMax at h; (repeat' split at h) <;> first | (cases h; done) | (cases h; exact hz)
    · unfold oMin at h; (repeat' split at h) <;> first | (cases h; done) | (cases h; exact hz)
    · unfold oCS at h; (repeat' split at h) <;> first | (cases h; done) | (cases h; exact hz)
    · cases h
  all_goals first
    | (cases h; done)
    | (simp only [stepI, nx, oILd, oLLd, oALd, oISt, oLSt, oASt, oInc, oI2, oL2, oIDiv, oLDiv, oNeg, oI2L, oLcmp, oDup, oDup2, oPop, oPop2, oIf, oIfI, oSw, oGf, oLen, oIald, oLald, oMax, oMin, oOI, oCV, oCS, oIret, oZret, oLret, oVret] at h; done)
    | (simp only [stepI, nx, oILd, oLLd, oALd, oISt, oLSt, oASt, oInc, oI2, oL2, oIDiv, oLDiv, oNeg, oI2L, oLcmp, oDup, oDup2, oPop, oPop2, oIf, oIfI, oSw, oGf, oLen, oIald, oLald, oMax, oMin, oOI, oCV, oCS, oIret, oZret, oLret, oVret] at h; (repeat' split at h) <;> first | (cases h; done) | (cases h; exact hz))
theorem evF_ZH (X : SX) : ∀ (n k pc : Nat) (ls : LS0) (st : List Value) (σ : SH) (v : Option Value) (σ2 : SH), evF X n k pc ls st σ = some (v, σ2) → ZH σ → ZH σ2 := by
  intro n
  induction n with
  | zero => intro k pc ls st σ v σ2 h; cases h
  | succ n ih =>
    intro k pc ls st σ v σ2 h hz
    unfold evF at h
    split at h
    · cases h
    · rename_i h1
      unfold step at h1
      split at h1
      · exact ih _ _ _ _ _ _ _ h (zh_step h1 hz)
      · cases h1
    · cases h; exact hz
    · split at h
      · cases h
      · rename_i h1
        exact ih _ _ _ _ _ _ _ h (ih _ _ _ _ _ _ _ h1 hz)
theorem caD_ZH {X : SX} {j : Nat} {as : List Value} {σ : SH} {v : Option Value} {σ2 : SH} (h : caD X j as σ = some (v, σ2)) (hz : ZH σ) : ZH σ2 := by
  obtain ⟨n, hn⟩ := exD_iff.mp h
  exact evF_ZH X n _ _ _ _ _ _ _ hn hz
theorem zh_00 : ZH (ms I00 L00) := by
  have h0 : ZH sA0 := by
    intro b n hb j hj
    match b, hb with
    | 0, hb => cases hb
    | b + 1, hb => cases hb
  have h1 := evF_ZH [] _ _ _ _ _ _ _ _ sA1_eq h0
  have h2 : ZH sB0 := h1.push rfl (fun k hk => by
    show z2 sA1.2.2.1 71 (fun _ => 0) k = sA1.2.2.1 k
    rw [z2_ne _ _ (by rw [sA1_len] at hk; exact hk)]) (fun q => by cases q)
  have h3 := evF_ZH [] _ _ _ _ _ _ _ _ sB1_eq h2
  rw [sB1_ms] at h3
  exact h3
