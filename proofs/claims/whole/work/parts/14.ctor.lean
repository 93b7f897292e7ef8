/-! the constructors, run by the kernel; the shape that stays -/
theorem stepI_nil {X : SX} {k pc : Nat} {r : RI} {ls : LS0} {st : List Value} {σ : SH} {o : NX} (h : stepI [] k pc r ls st σ = some o) : stepI X k pc r ls st σ = some o := by
  obtain ⟨ins, len, a, v, tb⟩ := r
  cases ins
  case arraylength =>
    replace h : oLen [] (pc + 1) ls st σ = some o := h
    show oLen X (pc + 1) ls st σ = some o
    unfold oLen at h ⊢
    split at h
    · split at h
      · rename_i hb; rw [if_pos hb]; exact h
      · simp at h
    · cases h
  case iaload =>
    replace h : oIald [] (pc + 1) ls st σ = some o := h
    show oIald X (pc + 1) ls st σ = some o
    unfold oIald at h ⊢
    split at h
    · split at h
      · rename_i hb; rw [if_pos hb]; exact h
      · simp at h
    · cases h
  case newarray at0 => cases at0 <;> exact h
  all_goals exact h
theorem evF_nil (X : SX) : ∀ (n k pc : Nat) (ls : LS0) (st : List Value) (σ : SH) (x : Option Value × SH), evF [] n k pc ls st σ = some x → evF X n k pc ls st σ = some x := by
  intro n
  induction n with
  | zero => intro k pc ls st σ x h; cases h
  | succ n ih =>
    intro k pc ls st σ x h
    have hst : ∀ o, step [] k pc ls st σ = some o → step X k pc ls st σ = some o := by
      intro o ho
      unfold step at ho ⊢
      split at ho
      · exact stepI_nil ho
      · cases ho
    unfold evF at h ⊢
    split at h
    · cases h
    · rename_i h1; rw [hst _ h1]; exact ih _ _ _ _ _ _ h
    · rename_i h1; rw [hst _ h1]; exact h
    · rename_i h1
      rw [hst _ h1]
      split at h
      · cases h
      · rename_i h2
        dsimp only
        rw [ih _ _ _ _ _ _ h2]
        exact ih _ _ _ _ _ _ h
theorem get_of {α β : Type} {o : Option (α × β)} {a : α} {d : α × β} (h : o.map (fun x => x.1) = some a) : o = some (a, (o.getD d).2) := by
  cases o with
  | none => cases h
  | some x => cases h; rfl
def sA0 : SH := ([(0, 9)], z2 sh0.2.1 0 (fun _ => none), z2 sh0.2.2.1 0 (fun _ => 0), sh0.2.2.2)
def sA1 : SH := ((evF [] 3000 73 0 (entL 1 [.ref 0]) [] sA0).getD (none, sA0)).2
theorem sA1_eq : evF [] 3000 73 0 (entL 1 [.ref 0]) [] sA0 = some (none, sA1) := get_of (by decide +kernel)
theorem sA1_len : sA1.1.length = 71 := by decide +kernel
def sB0 : SH := (sA1.1 ++ [(0, 10)], z2 sA1.2.1 71 (fun _ => none), z2 sA1.2.2.1 71 (fun _ => 0), sA1.2.2.2)
def sB1 : SH := ((evF [] 3000 120 0 (entL 2 [.ref 71]) [] sB0).getD (none, sB0)).2
theorem sB1_eq : evF [] 3000 120 0 (entL 2 [.ref 71]) [] sB0 = some (none, sB1) := get_of (by decide +kernel)
def KD : List (Nat × Nat) := [(0, 9), (0, 2), (1, 5), (1, 5), (1, 25), (1, 25), (1, 3), (0, 7), (1, 5), (1, 5), (1, 5), (1, 5), (0, 4), (1, 4), (1, 4), (1, 4), (1, 4), (0, 2), (1, 5), (1, 5), (1, 25), (1, 25), (1, 3), (0, 7), (1, 5), (1, 5), (1, 5), (1, 5), (0, 4), (1, 4), (1, 4), (1, 4), (1, 4), (0, 2), (1, 5), (1, 5), (1, 25), (1, 25), (1, 3), (0, 7), (1, 5), (1, 5), (1, 5), (1, 5), (0, 4), (1, 4), (1, 4), (1, 4), (1, 4), (0, 3), (1, 72), (0, 5), (1, 8), (0, 0), (1, 5), (1, 5), (1, 5), (0, 8), (0, 6), (1, 5), (2, 5), (0, 0), (1, 5), (1, 5), (1, 5), (0, 1), (1, 200), (0, 8), (0, 5), (1, 8), (1, 7), (0, 10), (1, 7), (1, 5), (1, 5), (1, 25), (1, 25), (1, 5), (1, 5), (1, 5), (1, 5), (1, 4), (1, 4), (1, 4), (1, 4), (1, 72), (1, 36), (1, 36), (1, 144), (1, 360), (1, 5), (1, 5), (1, 5), (1, 8), (1, 8), (1, 5), (2, 5)]
theorem sB1_kd : sB1.1 = KD := by decide +kernel
theorem ex_P : ∃ P : Nat → Nat → Option Nat, P = sB1.2.1 := ⟨_, rfl⟩
theorem ex_I : ∃ I : Nat → Nat → Int32, I = sB1.2.2.1 := ⟨_, rfl⟩
theorem ex_L : ∃ L : Nat → Nat → Int64, L = sB1.2.2.2 := ⟨_, rfl⟩
noncomputable def PP : Nat → Nat → Option Nat := Classical.choose ex_P
noncomputable def I00 : Nat → Nat → Int32 := Classical.choose ex_I
noncomputable def L00 : Nat → Nat → Int64 := Classical.choose ex_L
theorem PP_eq : PP = sB1.2.1 := Classical.choose_spec ex_P
theorem I00_eq : I00 = sB1.2.2.1 := Classical.choose_spec ex_I
theorem L00_eq : L00 = sB1.2.2.2 := Classical.choose_spec ex_L
noncomputable def ms (I : Nat → Nat → Int32) (L : Nat → Nat → Int64) : SH := (KD, PP, I, L)
theorem ms_of (s : SH) (h : s.1 = KD) : s = (KD, s.2.1, s.2.2.1, s.2.2.2) := by rw [← h]
theorem sB1_ms : sB1 = ms I00 L00 := by
  unfold ms
  rw [PP_eq, I00_eq, L00_eq]
  exact ms_of sB1 sB1_kd
theorem ms_P (I : Nat → Nat → Int32) (L : Nat → Nat → Int64) : (ms I L).2.1 = PP := rfl
theorem ms_I (I : Nat → Nat → Int32) (L : Nat → Nat → Int64) : (ms I L).2.2.1 = I := rfl
theorem ms_L (I : Nat → Nat → Int32) (L : Nat → Nat → Int64) : (ms I L).2.2.2 = L := rfl
theorem ms_put (I J : Nat → Nat → Int32) (L M : Nat → Nat → Int64) : ((ms I L).1, (ms I L).2.1, J, M) = ms J M := rfl
theorem ms_sz (I : Nat → Nat → Int32) (L : Nat → Nat → Int64) : (ms I L).1.length ≤ 97 ∧ slz (ms I L).1 ≤ 1572 := by
  show KD.length ≤ 97 ∧ slz KD ≤ 1572
  decide +kernel
theorem hk_0 (I : Nat → Nat → Int32) (L : Nat → Nat → Int64) : hk (ms I L) 0 = some (0, 9) := rfl
theorem hk_1 (I : Nat → Nat → Int32) (L : Nat → Nat → Int64) : hk (ms I L) 1 = some (0, 2) := rfl
theorem hk_2 (I : Nat → Nat → Int32) (L : Nat → Nat → Int64) : hk (ms I L) 2 = some (1, 5) := rfl
theorem kd_2 (I : Nat → Nat → Int32) (L : Nat → Nat → Int64) : (ms I L).1[2]? = some (1, 5) := rfl
theorem hk_3 (I : Nat → Nat → Int32) (L : Nat → Nat → Int64) : hk (ms I L) 3 = some (1, 5) := rfl
theorem kd_3 (I : Nat → Nat → Int32) (L : Nat → Nat → Int64) : (ms I L).1[3]? = some (1, 5) := rfl
theorem hk_4 (I : Nat → Nat → Int32) (L : Nat → Nat → Int64) : hk (ms I L) 4 = some (1, 25) := rfl
theorem kd_4 (I : Nat → Nat → Int32) (L : Nat → Nat → Int64) : (ms I L).1[4]? = some (1, 25) := rfl
theorem hk_5 (I : Nat → Nat → Int32) (L : Nat → Nat → Int64) : hk (ms I L) 5 = some (1, 25) := rfl
theorem kd_5 (I : Nat → Nat → Int32) (L : Nat → Nat → Int64) : (ms I L).1[5]? = some (1, 25) := rfl
theorem hk_6 (I : Nat → Nat → Int32) (L : Nat → Nat → Int64) : hk (ms I L) 6 = some (1, 3) := rfl
theorem kd_6 (I : Nat → Nat → Int32) (L : Nat → Nat → Int64) : (ms I L).1[6]? = some (1, 3) := rfl
theorem hk_7 (I : Nat → Nat → Int32) (L : Nat → Nat → Int64) : hk (ms I L) 7 = some (0, 7) := rfl
theorem hk_8 (I : Nat → Nat → Int32) (L : Nat → Nat → Int64) : hk (ms I L) 8 = some (1, 5) := rfl
theorem kd_8 (I : Nat → Nat → Int32) (L : Nat → Nat → Int64) : (ms I L).1[8]? = some (1, 5) := rfl
theorem hk_9 (I : Nat → Nat → Int32) (L : Nat → Nat → Int64) : hk (ms I L) 9 = some (1, 5) := rfl
theorem kd_9 (I : Nat → Nat → Int32) (L : Nat → Nat → Int64) : (ms I L).1[9]? = some (1, 5) := rfl
theorem hk_10 (I : Nat → Nat → Int32) (L : Nat → Nat → Int64) : hk (ms I L) 10 = some (1, 5) := rfl
theorem kd_10 (I : Nat → Nat → Int32) (L : Nat → Nat → Int64) : (ms I L).1[10]? = some (1, 5) := rfl
theorem hk_11 (I : Nat → Nat → Int32) (L : Nat → Nat → Int64) : hk (ms I L) 11 = some (1, 5) := rfl
theorem kd_11 (I : Nat → Nat → Int32) (L : Nat → Nat → Int64) : (ms I L).1[11]? = some (1, 5) := rfl
theorem hk_12 (I : Nat → Nat → Int32) (L : Nat → Nat → Int64) : hk (ms I L) 12 = some (0, 4) := rfl
theorem hk_13 (I : Nat → Nat → Int32) (L : Nat → Nat → Int64) : hk (ms I L) 13 = some (1, 4) := rfl
theorem kd_13 (I : Nat → Nat → Int32) (L : Nat → Nat → Int64) : (ms I L).1[13]? = some (1, 4) := rfl
theorem hk_14 (I : Nat → Nat → Int32) (L : Nat → Nat → Int64) : hk (ms I L) 14 = some (1, 4) := rfl
theorem kd_14 (I : Nat → Nat → Int32) (L : Nat → Nat → Int64) : (ms I L).1[14]? = some (1, 4) := rfl
theorem hk_15 (I : Nat → Nat → Int32) (L : Nat → Nat → Int64) : hk (ms I L) 15 = some (1, 4) := rfl
theorem kd_15 (I : Nat → Nat → Int32) (L : Nat → Nat → Int64) : (ms I L).1[15]? = some (1, 4) := rfl
theorem hk_16 (I : Nat → Nat → Int32) (L : Nat → Nat → Int64) : hk (ms I L) 16 = some (1, 4) := rfl
theorem kd_16 (I : Nat → Nat → Int32) (L : Nat → Nat → Int64) : (ms I L).1[16]? = some (1, 4) := rfl
theorem hk_17 (I : Nat → Nat → Int32) (L : Nat → Nat → Int64) : hk (ms I L) 17 = some (0, 2) := rfl
theorem hk_18 (I : Nat → Nat → Int32) (L : Nat → Nat → Int64) : hk (ms I L) 18 = some (1, 5) := rfl
theorem kd_18 (I : Nat → Nat → Int32) (L : Nat → Nat → Int64) : (ms I L).1[18]? = some (1, 5) := rfl
theorem hk_19 (I : Nat → Nat → Int32) (L : Nat → Nat → Int64) : hk (ms I L) 19 = some (1, 5) := rfl
theorem kd_19 (I : Nat → Nat → Int32) (L : Nat → Nat → Int64) : (ms I L).1[19]? = some (1, 5) := rfl
theorem hk_20 (I : Nat → Nat → Int32) (L : Nat → Nat → Int64) : hk (ms I L) 20 = some (1, 25) := rfl
theorem kd_20 (I : Nat → Nat → Int32) (L : Nat → Nat → Int64) : (ms I L).1[20]? = some (1, 25) := rfl
theorem hk_21 (I : Nat → Nat → Int32) (L : Nat → Nat → Int64) : hk (ms I L) 21 = some (1, 25) := rfl
theorem kd_21 (I : Nat → Nat → Int32) (L : Nat → Nat → Int64) : (ms I L).1[21]? = some (1, 25) := rfl
theorem hk_22 (I : Nat → Nat → Int32) (L : Nat → Nat → Int64) : hk (ms I L) 22 = some (1, 3) := rfl
theorem kd_22 (I : Nat → Nat → Int32) (L : Nat → Nat → Int64) : (ms I L).1[22]? = some (1, 3) := rfl
theorem hk_23 (I : Nat → Nat → Int32) (L : Nat → Nat → Int64) : hk (ms I L) 23 = some (0, 7) := rfl
theorem hk_24 (I : Nat → Nat → Int32) (L : Nat → Nat → Int64) : hk (ms I L) 24 = some (1, 5) := rfl
theorem kd_24 (I : Nat → Nat → Int32) (L : Nat → Nat → Int64) : (ms I L).1[24]? = some (1, 5) := rfl
theorem hk_25 (I : Nat → Nat → Int32) (L : Nat → Nat → Int64) : hk (ms I L) 25 = some (1, 5) := rfl
theorem kd_25 (I : Nat → Nat → Int32) (L : Nat → Nat → Int64) : (ms I L).1[25]? = some (1, 5) := rfl
theorem hk_26 (I : Nat → Nat → Int32) (L : Nat → Nat → Int64) : hk (ms I L) 26 = some (1, 5) := rfl
theorem kd_26 (I : Nat → Nat → Int32) (L : Nat → Nat → Int64) : (ms I L).1[26]? = some (1, 5) := rfl
theorem hk_27 (I : Nat → Nat → Int32) (L : Nat → Nat → Int64) : hk (ms I L) 27 = some (1, 5) := rfl
theorem kd_27 (I : Nat → Nat → Int32) (L : Nat → Nat → Int64) : (ms I L).1[27]? = some (1, 5) := rfl
theorem hk_28 (I : Nat → Nat → Int32) (L : Nat → Nat → Int64) : hk (ms I L) 28 = some (0, 4) := rfl
theorem hk_29 (I : Nat → Nat → Int32) (L : Nat → Nat → Int64) : hk (ms I L) 29 = some (1, 4) := rfl
theorem kd_29 (I : Nat → Nat → Int32) (L : Nat → Nat → Int64) : (ms I L).1[29]? = some (1, 4) := rfl
theorem hk_30 (I : Nat → Nat → Int32) (L : Nat → Nat → Int64) : hk (ms I L) 30 = some (1, 4) := rfl
theorem kd_30 (I : Nat → Nat → Int32) (L : Nat → Nat → Int64) : (ms I L).1[30]? = some (1, 4) := rfl
theorem hk_31 (I : Nat → Nat → Int32) (L : Nat → Nat → Int64) : hk (ms I L) 31 = some (1, 4) := rfl
theorem kd_31 (I : Nat → Nat → Int32) (L : Nat → Nat → Int64) : (ms I L).1[31]? = some (1, 4) := rfl
theorem hk_32 (I : Nat → Nat → Int32) (L : Nat → Nat → Int64) : hk (ms I L) 32 = some (1, 4) := rfl
theorem kd_32 (I : Nat → Nat → Int32) (L : Nat → Nat → Int64) : (ms I L).1[32]? = some (1, 4) := rfl
theorem hk_33 (I : Nat → Nat → Int32) (L : Nat → Nat → Int64) : hk (ms I L) 33 = some (0, 2) := rfl
theorem hk_34 (I : Nat → Nat → Int32) (L : Nat → Nat → Int64) : hk (ms I L) 34 = some (1, 5) := rfl
theorem kd_34 (I : Nat → Nat → Int32) (L : Nat → Nat → Int64) : (ms I L).1[34]? = some (1, 5) := rfl
theorem hk_35 (I : Nat → Nat → Int32) (L : Nat → Nat → Int64) : hk (ms I L) 35 = some (1, 5) := rfl
theorem kd_35 (I : Nat → Nat → Int32) (L : Nat → Nat → Int64) : (ms I L).1[35]? = some (1, 5) := rfl
theorem hk_36 (I : Nat → Nat → Int32) (L : Nat → Nat → Int64) : hk (ms I L) 36 = some (1, 25) := rfl
theorem kd_36 (I : Nat → Nat → Int32) (L : Nat → Nat → Int64) : (ms I L).1[36]? = some (1, 25) := rfl
theorem hk_37 (I : Nat → Nat → Int32) (L : Nat → Nat → Int64) : hk (ms I L) 37 = some (1, 25) := rfl
theorem kd_37 (I : Nat → Nat → Int32) (L : Nat → Nat → Int64) : (ms I L).1[37]? = some (1, 25) := rfl
theorem hk_38 (I : Nat → Nat → Int32) (L : Nat → Nat → Int64) : hk (ms I L) 38 = some (1, 3) := rfl
theorem kd_38 (I : Nat → Nat → Int32) (L : Nat → Nat → Int64) : (ms I L).1[38]? = some (1, 3) := rfl
theorem hk_39 (I : Nat → Nat → Int32) (L : Nat → Nat → Int64) : hk (ms I L) 39 = some (0, 7) := rfl
theorem hk_40 (I : Nat → Nat → Int32) (L : Nat → Nat → Int64) : hk (ms I L) 40 = some (1, 5) := rfl
theorem kd_40 (I : Nat → Nat → Int32) (L : Nat → Nat → Int64) : (ms I L).1[40]? = some (1, 5) := rfl
theorem hk_41 (I : Nat → Nat → Int32) (L : Nat → Nat → Int64) : hk (ms I L) 41 = some (1, 5) := rfl
theorem kd_41 (I : Nat → Nat → Int32) (L : Nat → Nat → Int64) : (ms I L).1[41]? = some (1, 5) := rfl
theorem hk_42 (I : Nat → Nat → Int32) (L : Nat → Nat → Int64) : hk (ms I L) 42 = some (1, 5) := rfl
theorem kd_42 (I : Nat → Nat → Int32) (L : Nat → Nat → Int64) : (ms I L).1[42]? = some (1, 5) := rfl
theorem hk_43 (I : Nat → Nat → Int32) (L : Nat → Nat → Int64) : hk (ms I L) 43 = some (1, 5) := rfl
theorem kd_43 (I : Nat → Nat → Int32) (L : Nat → Nat → Int64) : (ms I L).1[43]? = some (1, 5) := rfl
theorem hk_44 (I : Nat → Nat → Int32) (L : Nat → Nat → Int64) : hk (ms I L) 44 = some (0, 4) := rfl
theorem hk_45 (I : Nat → Nat → Int32) (L : Nat → Nat → Int64) : hk (ms I L) 45 = some (1, 4) := rfl
theorem kd_45 (I : Nat → Nat → Int32) (L : Nat → Nat → Int64) : (ms I L).1[45]? = some (1, 4) := rfl
theorem hk_46 (I : Nat → Nat → Int32) (L : Nat → Nat → Int64) : hk (ms I L) 46 = some (1, 4) := rfl
theorem kd_46 (I : Nat → Nat → Int32) (L : Nat → Nat → Int64) : (ms I L).1[46]? = some (1, 4) := rfl
theorem hk_47 (I : Nat → Nat → Int32) (L : Nat → Nat → Int64) : hk (ms I L) 47 = some (1, 4) := rfl
theorem kd_47 (I : Nat → Nat → Int32) (L : Nat → Nat → Int64) : (ms I L).1[47]? = some (1, 4) := rfl
theorem hk_48 (I : Nat → Nat → Int32) (L : Nat → Nat → Int64) : hk (ms I L) 48 = some (1, 4) := rfl
theorem kd_48 (I : Nat → Nat → Int32) (L : Nat → Nat → Int64) : (ms I L).1[48]? = some (1, 4) := rfl
theorem hk_49 (I : Nat → Nat → Int32) (L : Nat → Nat → Int64) : hk (ms I L) 49 = some (0, 3) := rfl
theorem hk_50 (I : Nat → Nat → Int32) (L : Nat → Nat → Int64) : hk (ms I L) 50 = some (1, 72) := rfl
theorem kd_50 (I : Nat → Nat → Int32) (L : Nat → Nat → Int64) : (ms I L).1[50]? = some (1, 72) := rfl
theorem hk_51 (I : Nat → Nat → Int32) (L : Nat → Nat → Int64) : hk (ms I L) 51 = some (0, 5) := rfl
theorem hk_52 (I : Nat → Nat → Int32) (L : Nat → Nat → Int64) : hk (ms I L) 52 = some (1, 8) := rfl
theorem kd_52 (I : Nat → Nat → Int32) (L : Nat → Nat → Int64) : (ms I L).1[52]? = some (1, 8) := rfl
theorem hk_53 (I : Nat → Nat → Int32) (L : Nat → Nat → Int64) : hk (ms I L) 53 = some (0, 0) := rfl
theorem hk_54 (I : Nat → Nat → Int32) (L : Nat → Nat → Int64) : hk (ms I L) 54 = some (1, 5) := rfl
theorem kd_54 (I : Nat → Nat → Int32) (L : Nat → Nat → Int64) : (ms I L).1[54]? = some (1, 5) := rfl
theorem hk_55 (I : Nat → Nat → Int32) (L : Nat → Nat → Int64) : hk (ms I L) 55 = some (1, 5) := rfl
theorem kd_55 (I : Nat → Nat → Int32) (L : Nat → Nat → Int64) : (ms I L).1[55]? = some (1, 5) := rfl
theorem hk_56 (I : Nat → Nat → Int32) (L : Nat → Nat → Int64) : hk (ms I L) 56 = some (1, 5) := rfl
theorem kd_56 (I : Nat → Nat → Int32) (L : Nat → Nat → Int64) : (ms I L).1[56]? = some (1, 5) := rfl
theorem hk_57 (I : Nat → Nat → Int32) (L : Nat → Nat → Int64) : hk (ms I L) 57 = some (0, 8) := rfl
theorem hk_58 (I : Nat → Nat → Int32) (L : Nat → Nat → Int64) : hk (ms I L) 58 = some (0, 6) := rfl
theorem hk_59 (I : Nat → Nat → Int32) (L : Nat → Nat → Int64) : hk (ms I L) 59 = some (1, 5) := rfl
theorem kd_59 (I : Nat → Nat → Int32) (L : Nat → Nat → Int64) : (ms I L).1[59]? = some (1, 5) := rfl
theorem hk_60 (I : Nat → Nat → Int32) (L : Nat → Nat → Int64) : hk (ms I L) 60 = some (2, 5) := rfl
theorem kd_60 (I : Nat → Nat → Int32) (L : Nat → Nat → Int64) : (ms I L).1[60]? = some (2, 5) := rfl
theorem hk_61 (I : Nat → Nat → Int32) (L : Nat → Nat → Int64) : hk (ms I L) 61 = some (0, 0) := rfl
theorem hk_62 (I : Nat → Nat → Int32) (L : Nat → Nat → Int64) : hk (ms I L) 62 = some (1, 5) := rfl
theorem kd_62 (I : Nat → Nat → Int32) (L : Nat → Nat → Int64) : (ms I L).1[62]? = some (1, 5) := rfl
theorem hk_63 (I : Nat → Nat → Int32) (L : Nat → Nat → Int64) : hk (ms I L) 63 = some (1, 5) := rfl
theorem kd_63 (I : Nat → Nat → Int32) (L : Nat → Nat → Int64) : (ms I L).1[63]? = some (1, 5) := rfl
theorem hk_64 (I : Nat → Nat → Int32) (L : Nat → Nat → Int64) : hk (ms I L) 64 = some (1, 5) := rfl
theorem kd_64 (I : Nat → Nat → Int32) (L : Nat → Nat → Int64) : (ms I L).1[64]? = some (1, 5) := rfl
theorem hk_65 (I : Nat → Nat → Int32) (L : Nat → Nat → Int64) : hk (ms I L) 65 = some (0, 1) := rfl
theorem hk_66 (I : Nat → Nat → Int32) (L : Nat → Nat → Int64) : hk (ms I L) 66 = some (1, 200) := rfl
theorem kd_66 (I : Nat → Nat → Int32) (L : Nat → Nat → Int64) : (ms I L).1[66]? = some (1, 200) := rfl
theorem hk_67 (I : Nat → Nat → Int32) (L : Nat → Nat → Int64) : hk (ms I L) 67 = some (0, 8) := rfl
theorem hk_68 (I : Nat → Nat → Int32) (L : Nat → Nat → Int64) : hk (ms I L) 68 = some (0, 5) := rfl
theorem hk_69 (I : Nat → Nat → Int32) (L : Nat → Nat → Int64) : hk (ms I L) 69 = some (1, 8) := rfl
theorem kd_69 (I : Nat → Nat → Int32) (L : Nat → Nat → Int64) : (ms I L).1[69]? = some (1, 8) := rfl
theorem hk_70 (I : Nat → Nat → Int32) (L : Nat → Nat → Int64) : hk (ms I L) 70 = some (1, 7) := rfl
theorem kd_70 (I : Nat → Nat → Int32) (L : Nat → Nat → Int64) : (ms I L).1[70]? = some (1, 7) := rfl
theorem hk_71 (I : Nat → Nat → Int32) (L : Nat → Nat → Int64) : hk (ms I L) 71 = some (0, 10) := rfl
theorem hk_72 (I : Nat → Nat → Int32) (L : Nat → Nat → Int64) : hk (ms I L) 72 = some (1, 7) := rfl
theorem kd_72 (I : Nat → Nat → Int32) (L : Nat → Nat → Int64) : (ms I L).1[72]? = some (1, 7) := rfl
theorem hk_73 (I : Nat → Nat → Int32) (L : Nat → Nat → Int64) : hk (ms I L) 73 = some (1, 5) := rfl
theorem kd_73 (I : Nat → Nat → Int32) (L : Nat → Nat → Int64) : (ms I L).1[73]? = some (1, 5) := rfl
theorem hk_74 (I : Nat → Nat → Int32) (L : Nat → Nat → Int64) : hk (ms I L) 74 = some (1, 5) := rfl
theorem kd_74 (I : Nat → Nat → Int32) (L : Nat → Nat → Int64) : (ms I L).1[74]? = some (1, 5) := rfl
theorem hk_75 (I : Nat → Nat → Int32) (L : Nat → Nat → Int64) : hk (ms I L) 75 = some (1, 25) := rfl
theorem kd_75 (I : Nat → Nat → Int32) (L : Nat → Nat → Int64) : (ms I L).1[75]? = some (1, 25) := rfl
theorem hk_76 (I : Nat → Nat → Int32) (L : Nat → Nat → Int64) : hk (ms I L) 76 = some (1, 25) := rfl
theorem kd_76 (I : Nat → Nat → Int32) (L : Nat → Nat → Int64) : (ms I L).1[76]? = some (1, 25) := rfl
theorem hk_77 (I : Nat → Nat → Int32) (L : Nat → Nat → Int64) : hk (ms I L) 77 = some (1, 5) := rfl
theorem kd_77 (I : Nat → Nat → Int32) (L : Nat → Nat → Int64) : (ms I L).1[77]? = some (1, 5) := rfl
theorem hk_78 (I : Nat → Nat → Int32) (L : Nat → Nat → Int64) : hk (ms I L) 78 = some (1, 5) := rfl
theorem kd_78 (I : Nat → Nat → Int32) (L : Nat → Nat → Int64) : (ms I L).1[78]? = some (1, 5) := rfl
theorem hk_79 (I : Nat → Nat → Int32) (L : Nat → Nat → Int64) : hk (ms I L) 79 = some (1, 5) := rfl
theorem kd_79 (I : Nat → Nat → Int32) (L : Nat → Nat → Int64) : (ms I L).1[79]? = some (1, 5) := rfl
theorem hk_80 (I : Nat → Nat → Int32) (L : Nat → Nat → Int64) : hk (ms I L) 80 = some (1, 5) := rfl
theorem kd_80 (I : Nat → Nat → Int32) (L : Nat → Nat → Int64) : (ms I L).1[80]? = some (1, 5) := rfl
theorem hk_81 (I : Nat → Nat → Int32) (L : Nat → Nat → Int64) : hk (ms I L) 81 = some (1, 4) := rfl
theorem kd_81 (I : Nat → Nat → Int32) (L : Nat → Nat → Int64) : (ms I L).1[81]? = some (1, 4) := rfl
theorem hk_82 (I : Nat → Nat → Int32) (L : Nat → Nat → Int64) : hk (ms I L) 82 = some (1, 4) := rfl
theorem kd_82 (I : Nat → Nat → Int32) (L : Nat → Nat → Int64) : (ms I L).1[82]? = some (1, 4) := rfl
theorem hk_83 (I : Nat → Nat → Int32) (L : Nat → Nat → Int64) : hk (ms I L) 83 = some (1, 4) := rfl
theorem kd_83 (I : Nat → Nat → Int32) (L : Nat → Nat → Int64) : (ms I L).1[83]? = some (1, 4) := rfl
theorem hk_84 (I : Nat → Nat → Int32) (L : Nat → Nat → Int64) : hk (ms I L) 84 = some (1, 4) := rfl
theorem kd_84 (I : Nat → Nat → Int32) (L : Nat → Nat → Int64) : (ms I L).1[84]? = some (1, 4) := rfl
theorem hk_85 (I : Nat → Nat → Int32) (L : Nat → Nat → Int64) : hk (ms I L) 85 = some (1, 72) := rfl
theorem kd_85 (I : Nat → Nat → Int32) (L : Nat → Nat → Int64) : (ms I L).1[85]? = some (1, 72) := rfl
theorem hk_86 (I : Nat → Nat → Int32) (L : Nat → Nat → Int64) : hk (ms I L) 86 = some (1, 36) := rfl
theorem kd_86 (I : Nat → Nat → Int32) (L : Nat → Nat → Int64) : (ms I L).1[86]? = some (1, 36) := rfl
theorem hk_87 (I : Nat → Nat → Int32) (L : Nat → Nat → Int64) : hk (ms I L) 87 = some (1, 36) := rfl
theorem kd_87 (I : Nat → Nat → Int32) (L : Nat → Nat → Int64) : (ms I L).1[87]? = some (1, 36) := rfl
theorem hk_88 (I : Nat → Nat → Int32) (L : Nat → Nat → Int64) : hk (ms I L) 88 = some (1, 144) := rfl
theorem kd_88 (I : Nat → Nat → Int32) (L : Nat → Nat → Int64) : (ms I L).1[88]? = some (1, 144) := rfl
theorem hk_89 (I : Nat → Nat → Int32) (L : Nat → Nat → Int64) : hk (ms I L) 89 = some (1, 360) := rfl
theorem kd_89 (I : Nat → Nat → Int32) (L : Nat → Nat → Int64) : (ms I L).1[89]? = some (1, 360) := rfl
theorem hk_90 (I : Nat → Nat → Int32) (L : Nat → Nat → Int64) : hk (ms I L) 90 = some (1, 5) := rfl
theorem kd_90 (I : Nat → Nat → Int32) (L : Nat → Nat → Int64) : (ms I L).1[90]? = some (1, 5) := rfl
theorem hk_91 (I : Nat → Nat → Int32) (L : Nat → Nat → Int64) : hk (ms I L) 91 = some (1, 5) := rfl
theorem kd_91 (I : Nat → Nat → Int32) (L : Nat → Nat → Int64) : (ms I L).1[91]? = some (1, 5) := rfl
theorem hk_92 (I : Nat → Nat → Int32) (L : Nat → Nat → Int64) : hk (ms I L) 92 = some (1, 5) := rfl
theorem kd_92 (I : Nat → Nat → Int32) (L : Nat → Nat → Int64) : (ms I L).1[92]? = some (1, 5) := rfl
theorem hk_93 (I : Nat → Nat → Int32) (L : Nat → Nat → Int64) : hk (ms I L) 93 = some (1, 8) := rfl
theorem kd_93 (I : Nat → Nat → Int32) (L : Nat → Nat → Int64) : (ms I L).1[93]? = some (1, 8) := rfl
theorem hk_94 (I : Nat → Nat → Int32) (L : Nat → Nat → Int64) : hk (ms I L) 94 = some (1, 8) := rfl
theorem kd_94 (I : Nat → Nat → Int32) (L : Nat → Nat → Int64) : (ms I L).1[94]? = some (1, 8) := rfl
theorem hk_95 (I : Nat → Nat → Int32) (L : Nat → Nat → Int64) : hk (ms I L) 95 = some (1, 5) := rfl
theorem kd_95 (I : Nat → Nat → Int32) (L : Nat → Nat → Int64) : (ms I L).1[95]? = some (1, 5) := rfl
theorem hk_96 (I : Nat → Nat → Int32) (L : Nat → Nat → Int64) : hk (ms I L) 96 = some (2, 5) := rfl
theorem kd_96 (I : Nat → Nat → Int32) (L : Nat → Nat → Int64) : (ms I L).1[96]? = some (2, 5) := rfl
def PL : List (Nat × Nat × Nat) := [(0, 0, 1), (0, 1, 17), (0, 2, 33), (0, 4, 49), (0, 5, 51), (0, 6, 53), (0, 7, 57), (0, 8, 58), (0, 9, 70), (1, 3, 2), (1, 4, 3), (1, 5, 4), (1, 6, 5), (1, 7, 6), (1, 8, 7), (1, 9, 12), (7, 1, 8), (7, 2, 9), (7, 3, 10), (7, 4, 11), (12, 1, 13), (12, 2, 14), (12, 3, 15), (12, 4, 16), (17, 3, 18), (17, 4, 19), (17, 5, 20), (17, 6, 21), (17, 7, 22), (17, 8, 23), (17, 9, 28), (23, 1, 24), (23, 2, 25), (23, 3, 26), (23, 4, 27), (28, 1, 29), (28, 2, 30), (28, 3, 31), (28, 4, 32), (33, 3, 34), (33, 4, 35), (33, 5, 36), (33, 6, 37), (33, 7, 38), (33, 8, 39), (33, 9, 44), (39, 1, 40), (39, 2, 41), (39, 3, 42), (39, 4, 43), (44, 1, 45), (44, 2, 46), (44, 3, 47), (44, 4, 48), (49, 0, 50), (51, 0, 52), (53, 0, 54), (53, 1, 55), (53, 2, 56), (58, 0, 59), (58, 1, 60), (58, 4, 61), (58, 5, 65), (58, 6, 67), (58, 7, 68), (61, 0, 62), (61, 1, 63), (61, 2, 64), (65, 0, 66), (68, 0, 69), (71, 0, 72), (71, 1, 73), (71, 2, 74), (71, 3, 75), (71, 4, 76), (71, 5, 77), (71, 6, 78), (71, 7, 79), (71, 8, 80), (71, 9, 81), (71, 10, 82), (71, 11, 83), (71, 12, 84), (71, 21, 85), (71, 22, 86), (71, 23, 87), (71, 24, 88), (71, 28, 89), (71, 32, 90), (71, 33, 91), (71, 34, 92), (71, 35, 93), (71, 36, 94), (71, 39, 95), (71, 40, 96)]
theorem pl_ok0 : PL.all (fun e => decide (sB1.2.1 e.1 e.2.1 = some e.2.2)) = true := by decide +kernel
theorem pl_ok : PL.all (fun e => decide (PP e.1 e.2.1 = some e.2.2)) = true := by
  have h := pl_ok0
  rw [← PP_eq] at h
  exact h
theorem pp_0_0 : PP 0 0 = some 1 := of_decide_eq_true (List.all_eq_true.mp pl_ok (0, 0, 1) (List.mem_of_getElem? (i := 0) rfl))
theorem pp_0_1 : PP 0 1 = some 17 := of_decide_eq_true (List.all_eq_true.mp pl_ok (0, 1, 17) (List.mem_of_getElem? (i := 1) rfl))
theorem pp_0_2 : PP 0 2 = some 33 := of_decide_eq_true (List.all_eq_true.mp pl_ok (0, 2, 33) (List.mem_of_getElem? (i := 2) rfl))
theorem pp_0_4 : PP 0 4 = some 49 := of_decide_eq_true (List.all_eq_true.mp pl_ok (0, 4, 49) (List.mem_of_getElem? (i := 3) rfl))
theorem pp_0_5 : PP 0 5 = some 51 := of_decide_eq_true (List.all_eq_true.mp pl_ok (0, 5, 51) (List.mem_of_getElem? (i := 4) rfl))
theorem pp_0_6 : PP 0 6 = some 53 := of_decide_eq_true (List.all_eq_true.mp pl_ok (0, 6, 53) (List.mem_of_getElem? (i := 5) rfl))
theorem pp_0_7 : PP 0 7 = some 57 := of_decide_eq_true (List.all_eq_true.mp pl_ok (0, 7, 57) (List.mem_of_getElem? (i := 6) rfl))
theorem pp_0_8 : PP 0 8 = some 58 := of_decide_eq_true (List.all_eq_true.mp pl_ok (0, 8, 58) (List.mem_of_getElem? (i := 7) rfl))
theorem pp_0_9 : PP 0 9 = some 70 := of_decide_eq_true (List.all_eq_true.mp pl_ok (0, 9, 70) (List.mem_of_getElem? (i := 8) rfl))
theorem pp_1_3 : PP 1 3 = some 2 := of_decide_eq_true (List.all_eq_true.mp pl_ok (1, 3, 2) (List.mem_of_getElem? (i := 9) rfl))
theorem pp_1_4 : PP 1 4 = some 3 := of_decide_eq_true (List.all_eq_true.mp pl_ok (1, 4, 3) (List.mem_of_getElem? (i := 10) rfl))
theorem pp_1_5 : PP 1 5 = some 4 := of_decide_eq_true (List.all_eq_true.mp pl_ok (1, 5, 4) (List.mem_of_getElem? (i := 11) rfl))
theorem pp_1_6 : PP 1 6 = some 5 := of_decide_eq_true (List.all_eq_true.mp pl_ok (1, 6, 5) (List.mem_of_getElem? (i := 12) rfl))
theorem pp_1_7 : PP 1 7 = some 6 := of_decide_eq_true (List.all_eq_true.mp pl_ok (1, 7, 6) (List.mem_of_getElem? (i := 13) rfl))
theorem pp_1_8 : PP 1 8 = some 7 := of_decide_eq_true (List.all_eq_true.mp pl_ok (1, 8, 7) (List.mem_of_getElem? (i := 14) rfl))
theorem pp_1_9 : PP 1 9 = some 12 := of_decide_eq_true (List.all_eq_true.mp pl_ok (1, 9, 12) (List.mem_of_getElem? (i := 15) rfl))
theorem pp_7_1 : PP 7 1 = some 8 := of_decide_eq_true (List.all_eq_true.mp pl_ok (7, 1, 8) (List.mem_of_getElem? (i := 16) rfl))
theorem pp_7_2 : PP 7 2 = some 9 := of_decide_eq_true (List.all_eq_true.mp pl_ok (7, 2, 9) (List.mem_of_getElem? (i := 17) rfl))
theorem pp_7_3 : PP 7 3 = some 10 := of_decide_eq_true (List.all_eq_true.mp pl_ok (7, 3, 10) (List.mem_of_getElem? (i := 18) rfl))
theorem pp_7_4 : PP 7 4 = some 11 := of_decide_eq_true (List.all_eq_true.mp pl_ok (7, 4, 11) (List.mem_of_getElem? (i := 19) rfl))
theorem pp_12_1 : PP 12 1 = some 13 := of_decide_eq_true (List.all_eq_true.mp pl_ok (12, 1, 13) (List.mem_of_getElem? (i := 20) rfl))
theorem pp_12_2 : PP 12 2 = some 14 := of_decide_eq_true (List.all_eq_true.mp pl_ok (12, 2, 14) (List.mem_of_getElem? (i := 21) rfl))
theorem pp_12_3 : PP 12 3 = some 15 := of_decide_eq_true (List.all_eq_true.mp pl_ok (12, 3, 15) (List.mem_of_getElem? (i := 22) rfl))
theorem pp_12_4 : PP 12 4 = some 16 := of_decide_eq_true (List.all_eq_true.mp pl_ok (12, 4, 16) (List.mem_of_getElem? (i := 23) rfl))
theorem pp_17_3 : PP 17 3 = some 18 := of_decide_eq_true (List.all_eq_true.mp pl_ok (17, 3, 18) (List.mem_of_getElem? (i := 24) rfl))
theorem pp_17_4 : PP 17 4 = some 19 := of_decide_eq_true (List.all_eq_true.mp pl_ok (17, 4, 19) (List.mem_of_getElem? (i := 25) rfl))
theorem pp_17_5 : PP 17 5 = some 20 := of_decide_eq_true (List.all_eq_true.mp pl_ok (17, 5, 20) (List.mem_of_getElem? (i := 26) rfl))
theorem pp_17_6 : PP 17 6 = some 21 := of_decide_eq_true (List.all_eq_true.mp pl_ok (17, 6, 21) (List.mem_of_getElem? (i := 27) rfl))
theorem pp_17_7 : PP 17 7 = some 22 := of_decide_eq_true (List.all_eq_true.mp pl_ok (17, 7, 22) (List.mem_of_getElem? (i := 28) rfl))
theorem pp_17_8 : PP 17 8 = some 23 := of_decide_eq_true (List.all_eq_true.mp pl_ok (17, 8, 23) (List.mem_of_getElem? (i := 29) rfl))
theorem pp_17_9 : PP 17 9 = some 28 := of_decide_eq_true (List.all_eq_true.mp pl_ok (17, 9, 28) (List.mem_of_getElem? (i := 30) rfl))
theorem pp_23_1 : PP 23 1 = some 24 := of_decide_eq_true (List.all_eq_true.mp pl_ok (23, 1, 24) (List.mem_of_getElem? (i := 31) rfl))
theorem pp_23_2 : PP 23 2 = some 25 := of_decide_eq_true (List.all_eq_true.mp pl_ok (23, 2, 25) (List.mem_of_getElem? (i := 32) rfl))
theorem pp_23_3 : PP 23 3 = some 26 := of_decide_eq_true (List.all_eq_true.mp pl_ok (23, 3, 26) (List.mem_of_getElem? (i := 33) rfl))
theorem pp_23_4 : PP 23 4 = some 27 := of_decide_eq_true (List.all_eq_true.mp pl_ok (23, 4, 27) (List.mem_of_getElem? (i := 34) rfl))
theorem pp_28_1 : PP 28 1 = some 29 := of_decide_eq_true (List.all_eq_true.mp pl_ok (28, 1, 29) (List.mem_of_getElem? (i := 35) rfl))
theorem pp_28_2 : PP 28 2 = some 30 := of_decide_eq_true (List.all_eq_true.mp pl_ok (28, 2, 30) (List.mem_of_getElem? (i := 36) rfl))
theorem pp_28_3 : PP 28 3 = some 31 := of_decide_eq_true (List.all_eq_true.mp pl_ok (28, 3, 31) (List.mem_of_getElem? (i := 37) rfl))
theorem pp_28_4 : PP 28 4 = some 32 := of_decide_eq_true (List.all_eq_true.mp pl_ok (28, 4, 32) (List.mem_of_getElem? (i := 38) rfl))
theorem pp_33_3 : PP 33 3 = some 34 := of_decide_eq_true (List.all_eq_true.mp pl_ok (33, 3, 34) (List.mem_of_getElem? (i := 39) rfl))
theorem pp_33_4 : PP 33 4 = some 35 := of_decide_eq_true (List.all_eq_true.mp pl_ok (33, 4, 35) (List.mem_of_getElem? (i := 40) rfl))
theorem pp_33_5 : PP 33 5 = some 36 := of_decide_eq_true (List.all_eq_true.mp pl_ok (33, 5, 36) (List.mem_of_getElem? (i := 41) rfl))
theorem pp_33_6 : PP 33 6 = some 37 := of_decide_eq_true (List.all_eq_true.mp pl_ok (33, 6, 37) (List.mem_of_getElem? (i := 42) rfl))
theorem pp_33_7 : PP 33 7 = some 38 := of_decide_eq_true (List.all_eq_true.mp pl_ok (33, 7, 38) (List.mem_of_getElem? (i := 43) rfl))
theorem pp_33_8 : PP 33 8 = some 39 := of_decide_eq_true (List.all_eq_true.mp pl_ok (33, 8, 39) (List.mem_of_getElem? (i := 44) rfl))
theorem pp_33_9 : PP 33 9 = some 44 := of_decide_eq_true (List.all_eq_true.mp pl_ok (33, 9, 44) (List.mem_of_getElem? (i := 45) rfl))
theorem pp_39_1 : PP 39 1 = some 40 := of_decide_eq_true (List.all_eq_true.mp pl_ok (39, 1, 40) (List.mem_of_getElem? (i := 46) rfl))
theorem pp_39_2 : PP 39 2 = some 41 := of_decide_eq_true (List.all_eq_true.mp pl_ok (39, 2, 41) (List.mem_of_getElem? (i := 47) rfl))
theorem pp_39_3 : PP 39 3 = some 42 := of_decide_eq_true (List.all_eq_true.mp pl_ok (39, 3, 42) (List.mem_of_getElem? (i := 48) rfl))
theorem pp_39_4 : PP 39 4 = some 43 := of_decide_eq_true (List.all_eq_true.mp pl_ok (39, 4, 43) (List.mem_of_getElem? (i := 49) rfl))
theorem pp_44_1 : PP 44 1 = some 45 := of_decide_eq_true (List.all_eq_true.mp pl_ok (44, 1, 45) (List.mem_of_getElem? (i := 50) rfl))
theorem pp_44_2 : PP 44 2 = some 46 := of_decide_eq_true (List.all_eq_true.mp pl_ok (44, 2, 46) (List.mem_of_getElem? (i := 51) rfl))
theorem pp_44_3 : PP 44 3 = some 47 := of_decide_eq_true (List.all_eq_true.mp pl_ok (44, 3, 47) (List.mem_of_getElem? (i := 52) rfl))
theorem pp_44_4 : PP 44 4 = some 48 := of_decide_eq_true (List.all_eq_true.mp pl_ok (44, 4, 48) (List.mem_of_getElem? (i := 53) rfl))
theorem pp_49_0 : PP 49 0 = some 50 := of_decide_eq_true (List.all_eq_true.mp pl_ok (49, 0, 50) (List.mem_of_getElem? (i := 54) rfl))
theorem pp_51_0 : PP 51 0 = some 52 := of_decide_eq_true (List.all_eq_true.mp pl_ok (51, 0, 52) (List.mem_of_getElem? (i := 55) rfl))
theorem pp_53_0 : PP 53 0 = some 54 := of_decide_eq_true (List.all_eq_true.mp pl_ok (53, 0, 54) (List.mem_of_getElem? (i := 56) rfl))
theorem pp_53_1 : PP 53 1 = some 55 := of_decide_eq_true (List.all_eq_true.mp pl_ok (53, 1, 55) (List.mem_of_getElem? (i := 57) rfl))
theorem pp_53_2 : PP 53 2 = some 56 := of_decide_eq_true (List.all_eq_true.mp pl_ok (53, 2, 56) (List.mem_of_getElem? (i := 58) rfl))
theorem pp_58_0 : PP 58 0 = some 59 := of_decide_eq_true (List.all_eq_true.mp pl_ok (58, 0, 59) (List.mem_of_getElem? (i := 59) rfl))
theorem pp_58_1 : PP 58 1 = some 60 := of_decide_eq_true (List.all_eq_true.mp pl_ok (58, 1, 60) (List.mem_of_getElem? (i := 60) rfl))
theorem pp_58_4 : PP 58 4 = some 61 := of_decide_eq_true (List.all_eq_true.mp pl_ok (58, 4, 61) (List.mem_of_getElem? (i := 61) rfl))
theorem pp_58_5 : PP 58 5 = some 65 := of_decide_eq_true (List.all_eq_true.mp pl_ok (58, 5, 65) (List.mem_of_getElem? (i := 62) rfl))
theorem pp_58_6 : PP 58 6 = some 67 := of_decide_eq_true (List.all_eq_true.mp pl_ok (58, 6, 67) (List.mem_of_getElem? (i := 63) rfl))
theorem pp_58_7 : PP 58 7 = some 68 := of_decide_eq_true (List.all_eq_true.mp pl_ok (58, 7, 68) (List.mem_of_getElem? (i := 64) rfl))
theorem pp_61_0 : PP 61 0 = some 62 := of_decide_eq_true (List.all_eq_true.mp pl_ok (61, 0, 62) (List.mem_of_getElem? (i := 65) rfl))
theorem pp_61_1 : PP 61 1 = some 63 := of_decide_eq_true (List.all_eq_true.mp pl_ok (61, 1, 63) (List.mem_of_getElem? (i := 66) rfl))
theorem pp_61_2 : PP 61 2 = some 64 := of_decide_eq_true (List.all_eq_true.mp pl_ok (61, 2, 64) (List.mem_of_getElem? (i := 67) rfl))
theorem pp_65_0 : PP 65 0 = some 66 := of_decide_eq_true (List.all_eq_true.mp pl_ok (65, 0, 66) (List.mem_of_getElem? (i := 68) rfl))
theorem pp_68_0 : PP 68 0 = some 69 := of_decide_eq_true (List.all_eq_true.mp pl_ok (68, 0, 69) (List.mem_of_getElem? (i := 69) rfl))
theorem pp_71_0 : PP 71 0 = some 72 := of_decide_eq_true (List.all_eq_true.mp pl_ok (71, 0, 72) (List.mem_of_getElem? (i := 70) rfl))
theorem pp_71_1 : PP 71 1 = some 73 := of_decide_eq_true (List.all_eq_true.mp pl_ok (71, 1, 73) (List.mem_of_getElem? (i := 71) rfl))
theorem pp_71_2 : PP 71 2 = some 74 := of_decide_eq_true (List.all_eq_true.mp pl_ok (71, 2, 74) (List.mem_of_getElem? (i := 72) rfl))
theorem pp_71_3 : PP 71 3 = some 75 := of_decide_eq_true (List.all_eq_true.mp pl_ok (71, 3, 75) (List.mem_of_getElem? (i := 73) rfl))
theorem pp_71_4 : PP 71 4 = some 76 := of_decide_eq_true (List.all_eq_true.mp pl_ok (71, 4, 76) (List.mem_of_getElem? (i := 74) rfl))
theorem pp_71_5 : PP 71 5 = some 77 := of_decide_eq_true (List.all_eq_true.mp pl_ok (71, 5, 77) (List.mem_of_getElem? (i := 75) rfl))
theorem pp_71_6 : PP 71 6 = some 78 := of_decide_eq_true (List.all_eq_true.mp pl_ok (71, 6, 78) (List.mem_of_getElem? (i := 76) rfl))
theorem pp_71_7 : PP 71 7 = some 79 := of_decide_eq_true (List.all_eq_true.mp pl_ok (71, 7, 79) (List.mem_of_getElem? (i := 77) rfl))
theorem pp_71_8 : PP 71 8 = some 80 := of_decide_eq_true (List.all_eq_true.mp pl_ok (71, 8, 80) (List.mem_of_getElem? (i := 78) rfl))
theorem pp_71_9 : PP 71 9 = some 81 := of_decide_eq_true (List.all_eq_true.mp pl_ok (71, 9, 81) (List.mem_of_getElem? (i := 79) rfl))
theorem pp_71_10 : PP 71 10 = some 82 := of_decide_eq_true (List.all_eq_true.mp pl_ok (71, 10, 82) (List.mem_of_getElem? (i := 80) rfl))
theorem pp_71_11 : PP 71 11 = some 83 := of_decide_eq_true (List.all_eq_true.mp pl_ok (71, 11, 83) (List.mem_of_getElem? (i := 81) rfl))
theorem pp_71_12 : PP 71 12 = some 84 := of_decide_eq_true (List.all_eq_true.mp pl_ok (71, 12, 84) (List.mem_of_getElem? (i := 82) rfl))
theorem pp_71_21 : PP 71 21 = some 85 := of_decide_eq_true (List.all_eq_true.mp pl_ok (71, 21, 85) (List.mem_of_getElem? (i := 83) rfl))
theorem pp_71_22 : PP 71 22 = some 86 := of_decide_eq_true (List.all_eq_true.mp pl_ok (71, 22, 86) (List.mem_of_getElem? (i := 84) rfl))
theorem pp_71_23 : PP 71 23 = some 87 := of_decide_eq_true (List.all_eq_true.mp pl_ok (71, 23, 87) (List.mem_of_getElem? (i := 85) rfl))
theorem pp_71_24 : PP 71 24 = some 88 := of_decide_eq_true (List.all_eq_true.mp pl_ok (71, 24, 88) (List.mem_of_getElem? (i := 86) rfl))
theorem pp_71_28 : PP 71 28 = some 89 := of_decide_eq_true (List.all_eq_true.mp pl_ok (71, 28, 89) (List.mem_of_getElem? (i := 87) rfl))
theorem pp_71_32 : PP 71 32 = some 90 := of_decide_eq_true (List.all_eq_true.mp pl_ok (71, 32, 90) (List.mem_of_getElem? (i := 88) rfl))
theorem pp_71_33 : PP 71 33 = some 91 := of_decide_eq_true (List.all_eq_true.mp pl_ok (71, 33, 91) (List.mem_of_getElem? (i := 89) rfl))
theorem pp_71_34 : PP 71 34 = some 92 := of_decide_eq_true (List.all_eq_true.mp pl_ok (71, 34, 92) (List.mem_of_getElem? (i := 90) rfl))
theorem pp_71_35 : PP 71 35 = some 93 := of_decide_eq_true (List.all_eq_true.mp pl_ok (71, 35, 93) (List.mem_of_getElem? (i := 91) rfl))
theorem pp_71_36 : PP 71 36 = some 94 := of_decide_eq_true (List.all_eq_true.mp pl_ok (71, 36, 94) (List.mem_of_getElem? (i := 92) rfl))
theorem pp_71_39 : PP 71 39 = some 95 := of_decide_eq_true (List.all_eq_true.mp pl_ok (71, 39, 95) (List.mem_of_getElem? (i := 93) rfl))
theorem pp_71_40 : PP 71 40 = some 96 := of_decide_eq_true (List.all_eq_true.mp pl_ok (71, 40, 96) (List.mem_of_getElem? (i := 94) rfl))
def IL : List (Nat × Nat × Int32) := [(0, 3, 0), (1, 0, 2), (1, 1, 0), (1, 2, 0), (7, 0, 0), (12, 0, 0), (49, 1, 0), (51, 1, 0), (53, 3, 0), (53, 4, 0), (53, 5, (-1)), (53, 6, (-1)), (53, 7, (-1)), (53, 8, (-1)), (57, 0, 0), (57, 1, 0), (71, 13, 2), (71, 14, 0), (71, 15, 0), (71, 16, 0), (71, 17, 0), (71, 18, 200), (71, 19, 10), (71, 20, 0), (71, 25, 0), (71, 26, 0), (71, 27, 0), (71, 29, 0), (71, 30, 0), (71, 31, 0), (71, 37, 0), (71, 38, 0)]
theorem il_ok0 : IL.all (fun e => decide (sB1.2.2.1 e.1 e.2.1 = e.2.2)) = true := by decide +kernel
theorem il_ok : IL.all (fun e => decide (I00 e.1 e.2.1 = e.2.2)) = true := by
  have h := il_ok0
  rw [← I00_eq] at h
  exact h
theorem i0_0_3 : I00 0 3 = 0 := of_decide_eq_true (List.all_eq_true.mp il_ok (0, 3, 0) (List.mem_of_getElem? (i := 0) rfl))
theorem i0_1_0 : I00 1 0 = 2 := of_decide_eq_true (List.all_eq_true.mp il_ok (1, 0, 2) (List.mem_of_getElem? (i := 1) rfl))
theorem i0_1_1 : I00 1 1 = 0 := of_decide_eq_true (List.all_eq_true.mp il_ok (1, 1, 0) (List.mem_of_getElem? (i := 2) rfl))
theorem i0_1_2 : I00 1 2 = 0 := of_decide_eq_true (List.all_eq_true.mp il_ok (1, 2, 0) (List.mem_of_getElem? (i := 3) rfl))
theorem i0_7_0 : I00 7 0 = 0 := of_decide_eq_true (List.all_eq_true.mp il_ok (7, 0, 0) (List.mem_of_getElem? (i := 4) rfl))
theorem i0_12_0 : I00 12 0 = 0 := of_decide_eq_true (List.all_eq_true.mp il_ok (12, 0, 0) (List.mem_of_getElem? (i := 5) rfl))
theorem i0_49_1 : I00 49 1 = 0 := of_decide_eq_true (List.all_eq_true.mp il_ok (49, 1, 0) (List.mem_of_getElem? (i := 6) rfl))
theorem i0_51_1 : I00 51 1 = 0 := of_decide_eq_true (List.all_eq_true.mp il_ok (51, 1, 0) (List.mem_of_getElem? (i := 7) rfl))
theorem i0_53_3 : I00 53 3 = 0 := of_decide_eq_true (List.all_eq_true.mp il_ok (53, 3, 0) (List.mem_of_getElem? (i := 8) rfl))
theorem i0_53_4 : I00 53 4 = 0 := of_decide_eq_true (List.all_eq_true.mp il_ok (53, 4, 0) (List.mem_of_getElem? (i := 9) rfl))
theorem i0_53_5 : I00 53 5 = (-1) := of_decide_eq_true (List.all_eq_true.mp il_ok (53, 5, (-1)) (List.mem_of_getElem? (i := 10) rfl))
theorem i0_53_6 : I00 53 6 = (-1) := of_decide_eq_true (List.all_eq_true.mp il_ok (53, 6, (-1)) (List.mem_of_getElem? (i := 11) rfl))
theorem i0_53_7 : I00 53 7 = (-1) := of_decide_eq_true (List.all_eq_true.mp il_ok (53, 7, (-1)) (List.mem_of_getElem? (i := 12) rfl))
theorem i0_53_8 : I00 53 8 = (-1) := of_decide_eq_true (List.all_eq_true.mp il_ok (53, 8, (-1)) (List.mem_of_getElem? (i := 13) rfl))
theorem i0_57_0 : I00 57 0 = 0 := of_decide_eq_true (List.all_eq_true.mp il_ok (57, 0, 0) (List.mem_of_getElem? (i := 14) rfl))
theorem i0_57_1 : I00 57 1 = 0 := of_decide_eq_true (List.all_eq_true.mp il_ok (57, 1, 0) (List.mem_of_getElem? (i := 15) rfl))
theorem i0_71_13 : I00 71 13 = 2 := of_decide_eq_true (List.all_eq_true.mp il_ok (71, 13, 2) (List.mem_of_getElem? (i := 16) rfl))
theorem i0_71_14 : I00 71 14 = 0 := of_decide_eq_true (List.all_eq_true.mp il_ok (71, 14, 0) (List.mem_of_getElem? (i := 17) rfl))
theorem i0_71_15 : I00 71 15 = 0 := of_decide_eq_true (List.all_eq_true.mp il_ok (71, 15, 0) (List.mem_of_getElem? (i := 18) rfl))
theorem i0_71_16 : I00 71 16 = 0 := of_decide_eq_true (List.all_eq_true.mp il_ok (71, 16, 0) (List.mem_of_getElem? (i := 19) rfl))
theorem i0_71_17 : I00 71 17 = 0 := of_decide_eq_true (List.all_eq_true.mp il_ok (71, 17, 0) (List.mem_of_getElem? (i := 20) rfl))
theorem i0_71_18 : I00 71 18 = 200 := of_decide_eq_true (List.all_eq_true.mp il_ok (71, 18, 200) (List.mem_of_getElem? (i := 21) rfl))
theorem i0_71_19 : I00 71 19 = 10 := of_decide_eq_true (List.all_eq_true.mp il_ok (71, 19, 10) (List.mem_of_getElem? (i := 22) rfl))
theorem i0_71_20 : I00 71 20 = 0 := of_decide_eq_true (List.all_eq_true.mp il_ok (71, 20, 0) (List.mem_of_getElem? (i := 23) rfl))
theorem i0_71_25 : I00 71 25 = 0 := of_decide_eq_true (List.all_eq_true.mp il_ok (71, 25, 0) (List.mem_of_getElem? (i := 24) rfl))
theorem i0_71_26 : I00 71 26 = 0 := of_decide_eq_true (List.all_eq_true.mp il_ok (71, 26, 0) (List.mem_of_getElem? (i := 25) rfl))
theorem i0_71_27 : I00 71 27 = 0 := of_decide_eq_true (List.all_eq_true.mp il_ok (71, 27, 0) (List.mem_of_getElem? (i := 26) rfl))
theorem i0_71_29 : I00 71 29 = 0 := of_decide_eq_true (List.all_eq_true.mp il_ok (71, 29, 0) (List.mem_of_getElem? (i := 27) rfl))
theorem i0_71_30 : I00 71 30 = 0 := of_decide_eq_true (List.all_eq_true.mp il_ok (71, 30, 0) (List.mem_of_getElem? (i := 28) rfl))
theorem i0_71_31 : I00 71 31 = 0 := of_decide_eq_true (List.all_eq_true.mp il_ok (71, 31, 0) (List.mem_of_getElem? (i := 29) rfl))
theorem i0_71_37 : I00 71 37 = 0 := of_decide_eq_true (List.all_eq_true.mp il_ok (71, 37, 0) (List.mem_of_getElem? (i := 30) rfl))
theorem i0_71_38 : I00 71 38 = 0 := of_decide_eq_true (List.all_eq_true.mp il_ok (71, 38, 0) (List.mem_of_getElem? (i := 31) rfl))
def AL : List (Nat × Nat) := [(2, 0), (2, 1), (2, 2), (2, 3), (2, 4), (4, 0), (4, 1), (4, 2), (4, 3), (4, 4), (4, 5), (4, 6), (4, 7), (4, 8), (4, 9), (4, 10), (4, 11), (4, 12), (4, 13), (4, 14), (4, 15), (4, 16), (4, 17), (4, 18), (4, 19), (4, 20), (4, 21), (4, 22), (4, 23), (4, 24), (5, 0), (5, 1), (5, 2), (5, 3), (5, 4), (5, 5), (5, 6), (5, 7), (5, 8), (5, 9), (5, 10), (5, 11), (5, 12), (5, 13), (5, 14), (5, 15), (5, 16), (5, 17), (5, 18), (5, 19), (5, 20), (5, 21), (5, 22), (5, 23), (5, 24), (8, 0), (8, 1), (8, 2), (8, 3), (8, 4), (9, 0), (9, 1), (9, 2), (9, 3), (9, 4), (10, 0), (10, 1), (10, 2), (10, 3), (10, 4), (11, 0), (11, 1), (11, 2), (11, 3), (11, 4), (13, 0), (13, 1), (13, 2), (13, 3), (14, 0), (14, 1), (14, 2), (14, 3), (15, 0), (15, 1), (15, 2), (15, 3), (16, 0), (16, 1), (16, 2), (16, 3), (70, 0), (70, 1), (70, 2), (70, 3), (70, 4), (70, 5), (70, 6), (72, 0), (72, 1), (72, 2), (72, 3), (72, 4), (72, 5), (72, 6), (73, 0), (73, 1), (73, 2), (73, 3), (73, 4), (75, 0), (75, 1), (75, 2), (75, 3), (75, 4), (75, 5), (75, 6), (75, 7), (75, 8), (75, 9), (75, 10), (75, 11), (75, 12), (75, 13), (75, 14), (75, 15), (75, 16), (75, 17), (75, 18), (75, 19), (75, 20), (75, 21), (75, 22), (75, 23), (75, 24), (76, 0), (76, 1), (76, 2), (76, 3), (76, 4), (76, 5), (76, 6), (76, 7), (76, 8), (76, 9), (76, 10), (76, 11), (76, 12), (76, 13), (76, 14), (76, 15), (76, 16), (76, 17), (76, 18), (76, 19), (76, 20), (76, 21), (76, 22), (76, 23), (76, 24), (77, 0), (77, 1), (77, 2), (77, 3), (77, 4), (78, 0), (78, 1), (78, 2), (78, 3), (78, 4), (79, 0), (79, 1), (79, 2), (79, 3), (79, 4), (80, 0), (80, 1), (80, 2), (80, 3), (80, 4), (81, 0), (81, 1), (81, 2), (81, 3), (82, 0), (82, 1), (82, 2), (82, 3), (83, 0), (83, 1), (83, 2), (83, 3), (84, 0), (84, 1), (84, 2), (84, 3)]
theorem al_ok0 : AL.all (fun e => decide (sB1.2.2.1 e.1 e.2 = 0)) = true := by decide +kernel
theorem al_ok : AL.all (fun e => decide (I00 e.1 e.2 = 0)) = true := by
  have h := al_ok0
  rw [← I00_eq] at h
  exact h
theorem z0_2 : ∀ j, j < 5 → I00 2 j = 0 := fun j hj => by
  exact of_decide_eq_true (List.all_eq_true.mp al_ok (2, j) (by
    have : ∀ j, j < 5 → (2, j) ∈ AL := by decide +kernel
    exact this j hj))
theorem z0_3 : ∀ j, j < 5 → I00 3 j = 1 := by
  have h : ∀ j, j < 5 → sB1.2.2.1 3 j = 1 := by decide +kernel
  rw [← I00_eq] at h
  exact h
theorem z0_4 : ∀ j, j < 25 → I00 4 j = 0 := fun j hj => by
  exact of_decide_eq_true (List.all_eq_true.mp al_ok (4, j) (by
    have : ∀ j, j < 25 → (4, j) ∈ AL := by decide +kernel
    exact this j hj))
theorem z0_5 : ∀ j, j < 25 → I00 5 j = 0 := fun j hj => by
  exact of_decide_eq_true (List.all_eq_true.mp al_ok (5, j) (by
    have : ∀ j, j < 25 → (5, j) ∈ AL := by decide +kernel
    exact this j hj))
theorem z0_6 : I00 6 0 = 0 ∧ I00 6 1 = 200 ∧ I00 6 2 = 10 := by
  have h : sB1.2.2.1 6 0 = 0 ∧ sB1.2.2.1 6 1 = 200 ∧ sB1.2.2.1 6 2 = 10 := by decide +kernel
  rw [← I00_eq] at h
  exact h
theorem z0_8 : ∀ j, j < 5 → I00 8 j = 0 := fun j hj => by
  exact of_decide_eq_true (List.all_eq_true.mp al_ok (8, j) (by
    have : ∀ j, j < 5 → (8, j) ∈ AL := by decide +kernel
    exact this j hj))
theorem z0_9 : ∀ j, j < 5 → I00 9 j = 0 := fun j hj => by
  exact of_decide_eq_true (List.all_eq_true.mp al_ok (9, j) (by
    have : ∀ j, j < 5 → (9, j) ∈ AL := by decide +kernel
    exact this j hj))
theorem z0_10 : ∀ j, j < 5 → I00 10 j = 0 := fun j hj => by
  exact of_decide_eq_true (List.all_eq_true.mp al_ok (10, j) (by
    have : ∀ j, j < 5 → (10, j) ∈ AL := by decide +kernel
    exact this j hj))
theorem z0_11 : ∀ j, j < 5 → I00 11 j = 0 := fun j hj => by
  exact of_decide_eq_true (List.all_eq_true.mp al_ok (11, j) (by
    have : ∀ j, j < 5 → (11, j) ∈ AL := by decide +kernel
    exact this j hj))
theorem z0_13 : ∀ j, j < 4 → I00 13 j = 0 := fun j hj => by
  exact of_decide_eq_true (List.all_eq_true.mp al_ok (13, j) (by
    have : ∀ j, j < 4 → (13, j) ∈ AL := by decide +kernel
    exact this j hj))
theorem z0_14 : ∀ j, j < 4 → I00 14 j = 0 := fun j hj => by
  exact of_decide_eq_true (List.all_eq_true.mp al_ok (14, j) (by
    have : ∀ j, j < 4 → (14, j) ∈ AL := by decide +kernel
    exact this j hj))
theorem z0_15 : ∀ j, j < 4 → I00 15 j = 0 := fun j hj => by
  exact of_decide_eq_true (List.all_eq_true.mp al_ok (15, j) (by
    have : ∀ j, j < 4 → (15, j) ∈ AL := by decide +kernel
    exact this j hj))
theorem z0_16 : ∀ j, j < 4 → I00 16 j = 0 := fun j hj => by
  exact of_decide_eq_true (List.all_eq_true.mp al_ok (16, j) (by
    have : ∀ j, j < 4 → (16, j) ∈ AL := by decide +kernel
    exact this j hj))
theorem z0_70 : ∀ j, j < 7 → I00 70 j = 0 := fun j hj => by
  exact of_decide_eq_true (List.all_eq_true.mp al_ok (70, j) (by
    have : ∀ j, j < 7 → (70, j) ∈ AL := by decide +kernel
    exact this j hj))
theorem z0_72 : ∀ j, j < 7 → I00 72 j = 0 := fun j hj => by
  exact of_decide_eq_true (List.all_eq_true.mp al_ok (72, j) (by
    have : ∀ j, j < 7 → (72, j) ∈ AL := by decide +kernel
    exact this j hj))
theorem z0_73 : ∀ j, j < 5 → I00 73 j = 0 := fun j hj => by
  exact of_decide_eq_true (List.all_eq_true.mp al_ok (73, j) (by
    have : ∀ j, j < 5 → (73, j) ∈ AL := by decide +kernel
    exact this j hj))
theorem z0_74 : ∀ j, j < 5 → I00 74 j = 1 := by
  have h : ∀ j, j < 5 → sB1.2.2.1 74 j = 1 := by decide +kernel
  rw [← I00_eq] at h
  exact h
theorem z0_75 : ∀ j, j < 25 → I00 75 j = 0 := fun j hj => by
  exact of_decide_eq_true (List.all_eq_true.mp al_ok (75, j) (by
    have : ∀ j, j < 25 → (75, j) ∈ AL := by decide +kernel
    exact this j hj))
theorem z0_76 : ∀ j, j < 25 → I00 76 j = 0 := fun j hj => by
  exact of_decide_eq_true (List.all_eq_true.mp al_ok (76, j) (by
    have : ∀ j, j < 25 → (76, j) ∈ AL := by decide +kernel
    exact this j hj))
theorem z0_77 : ∀ j, j < 5 → I00 77 j = 0 := fun j hj => by
  exact of_decide_eq_true (List.all_eq_true.mp al_ok (77, j) (by
    have : ∀ j, j < 5 → (77, j) ∈ AL := by decide +kernel
    exact this j hj))
theorem z0_78 : ∀ j, j < 5 → I00 78 j = 0 := fun j hj => by
  exact of_decide_eq_true (List.all_eq_true.mp al_ok (78, j) (by
    have : ∀ j, j < 5 → (78, j) ∈ AL := by decide +kernel
    exact this j hj))
theorem z0_79 : ∀ j, j < 5 → I00 79 j = 0 := fun j hj => by
  exact of_decide_eq_true (List.all_eq_true.mp al_ok (79, j) (by
    have : ∀ j, j < 5 → (79, j) ∈ AL := by decide +kernel
    exact this j hj))
theorem z0_80 : ∀ j, j < 5 → I00 80 j = 0 := fun j hj => by
  exact of_decide_eq_true (List.all_eq_true.mp al_ok (80, j) (by
    have : ∀ j, j < 5 → (80, j) ∈ AL := by decide +kernel
    exact this j hj))
theorem z0_81 : ∀ j, j < 4 → I00 81 j = 0 := fun j hj => by
  exact of_decide_eq_true (List.all_eq_true.mp al_ok (81, j) (by
    have : ∀ j, j < 4 → (81, j) ∈ AL := by decide +kernel
    exact this j hj))
theorem z0_82 : ∀ j, j < 4 → I00 82 j = 0 := fun j hj => by
  exact of_decide_eq_true (List.all_eq_true.mp al_ok (82, j) (by
    have : ∀ j, j < 4 → (82, j) ∈ AL := by decide +kernel
    exact this j hj))
theorem z0_83 : ∀ j, j < 4 → I00 83 j = 0 := fun j hj => by
  exact of_decide_eq_true (List.all_eq_true.mp al_ok (83, j) (by
    have : ∀ j, j < 4 → (83, j) ∈ AL := by decide +kernel
    exact this j hj))
theorem z0_84 : ∀ j, j < 4 → I00 84 j = 0 := fun j hj => by
  exact of_decide_eq_true (List.all_eq_true.mp al_ok (84, j) (by
    have : ∀ j, j < 4 → (84, j) ∈ AL := by decide +kernel
    exact this j hj))
