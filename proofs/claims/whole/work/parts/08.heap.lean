/-! steps that read and write cells -/
theorem RC.mono {E : EX0} {tys tys' : List (ClassId × FieldType)} {σ σ' : SH} {ws ws' : va_W} {k : Nat} {t : Nat × Nat} (hx : XT ws ws') (hk : ws'[k]? = ws[k]?) (ht : ∀ (i : Nat) (x : ClassId × FieldType), tys[i]? = some x → tys'[i]? = some x)
    (hp : σ'.2.1 k = σ.2.1 k) (hi : σ'.2.2.1 k = σ.2.2.1 k) (hl : σ'.2.2.2 k = σ.2.2.2 k) (h : RC E tys σ ws k t) : RC E tys' σ' ws' k t := by
  obtain ⟨c, n⟩ := t
  match c, h with
  | 0, h =>
    obtain ⟨h1, a, fs, h2, h3, h4⟩ := h
    refine ⟨h1, a, fs, hk.trans h2, h3, fun j hj => ?_⟩
    obtain ⟨w, h5, h6⟩ := h4 j hj
    refine ⟨w, h5, ?_⟩
    have h7 := h6.mono hx
    unfold fR at h7 ⊢
    rw [hp, hi]
    exact h7
  | 1, h =>
    obtain ⟨a, cA, t0, h1, h2⟩ := h
    exact ⟨a, cA, t0, by rw [hi]; exact hk.trans h1, ht _ _ h2⟩
  | 2, h =>
    obtain ⟨a, cA, t0, h1, h2⟩ := h
    exact ⟨a, cA, t0, by rw [hl]; exact hk.trans h1, ht _ _ h2⟩
  | _ + 3, h => exact h.elim
theorem REL.upd {E : EX0} {tys : List (ClassId × FieldType)} {σ σ' : SH} {ws : va_W} {b a : Nat} {e0 e : va_E} {t : Nat × Nat} (h : REL E tys σ ws) (hb : σ.1[b]? = some t) (hw : ws[b]? = some (a, e0)) (h1 : σ'.1 = σ.1)
    (hp : ∀ k, k ≠ b → σ'.2.1 k = σ.2.1 k) (hi : ∀ k, k ≠ b → σ'.2.2.1 k = σ.2.2.1 k) (hl : ∀ k, k ≠ b → σ'.2.2.2 k = σ.2.2.2 k) (hc : RC E tys σ' (ws.set b (a, e)) b t) : REL E tys σ' (ws.set b (a, e)) := by
  refine ⟨by rw [List.length_set, h1]; exact h.1, fun k u hu => ?_⟩
  rw [h1] at hu
  by_cases hk : b = k
  · subst hk
    rw [hb] at hu
    cases hu
    exact hc
  · exact (h.2 k u hu).mono (XT.set hw) (List.getElem?_set_ne hk) (fun _ _ q => q) (hp k (fun q => hk q.symm)) (hi k (fun q => hk q.symm)) (hl k (fun q => hk q.symm))
theorem REL.push {E : EX0} {tys tys' : List (ClassId × FieldType)} {σ σ' : SH} {ws : va_W} {x : Nat × va_E} {t : Nat × Nat} (h : REL E tys σ ws) (h1 : σ'.1 = σ.1 ++ [t]) (ht : ∀ (i : Nat) (x : ClassId × FieldType), tys[i]? = some x → tys'[i]? = some x)
    (hp : ∀ k, k ≠ σ.1.length → σ'.2.1 k = σ.2.1 k) (hi : ∀ k, k ≠ σ.1.length → σ'.2.2.1 k = σ.2.2.1 k) (hl : ∀ k, k ≠ σ.1.length → σ'.2.2.2 k = σ.2.2.2 k) (hc : RC E tys' σ' (ws ++ [x]) σ.1.length t) : REL E tys' σ' (ws ++ [x]) := by
  refine ⟨by rw [List.length_append, h1, List.length_append, h.1]; rfl, fun k u hu => ?_⟩
  rw [h1] at hu
  by_cases hk : k < σ.1.length
  · rw [List.getElem?_append_left hk] at hu
    exact (h.2 k u hu).mono XT.push (List.getElem?_append_left (by rw [h.1]; exact hk)) ht (hp k (by omega)) (hi k (by omega)) (hl k (by omega))
  · have h2 : k < (σ.1 ++ [t]).length := (List.getElem?_eq_some_iff.mp hu).1
    rw [List.length_append] at h2
    have h3 : k = σ.1.length := by
      have : [t].length = 1 := rfl
      omega
    subst h3
    rw [List.getElem?_append_right (Nat.le_refl _), Nat.sub_self] at hu
    cases hu
    exact hc
theorem hk_spec {σ : SH} {b : Nat} {t : Nat × Nat} (h : hk σ b = some t) : b < 4096 ∧ σ.1[b]? = some t := by
  unfold hk at h
  split at h
  · exact ⟨by assumption, h⟩
  · cases h
theorem REL.obj {E : EX0} {tys : List (ClassId × FieldType)} {σ : SH} {ws : va_W} {b ci : Nat} (h : REL E tys σ ws) (hb : σ.1[b]? = some (0, ci)) : ci < 11 ∧ ∃ (a : Nat) (fs : List Value), ws[b]? = some (a, .inr (ci, fs)) ∧ fs.length = (clI ci).2.2 ∧ ∀ j, j < (clI ci).2.2 → ∃ w, fs[j]? = some w ∧ fR E ws ci j σ b w := h.2 b _ hb
theorem REL.ia {E : EX0} {tys : List (ClassId × FieldType)} {σ : SH} {ws : va_W} {b n : Nat} (h : REL E tys σ ws) (hb : σ.1[b]? = some (1, n)) : ∃ (a : Nat) (cA : ClassId) (t0 : Nat), ws[b]? = some (a, .inl (cA, n, .inl (σ.2.2.1 b))) ∧ tys[t0]? = some (cA, .int) := h.2 b _ hb
theorem REL.la {E : EX0} {tys : List (ClassId × FieldType)} {σ : SH} {ws : va_W} {b n : Nat} (h : REL E tys σ ws) (hb : σ.1[b]? = some (2, n)) : ∃ (a : Nat) (cA : ClassId) (t0 : Nat), ws[b]? = some (a, .inl (cA, n, .inr (.inl (σ.2.2.2 b)))) ∧ tys[t0]? = some (cA, .long) := h.2 b _ hb
theorem u2_self {α : Type} (f : Nat → Nat → α) (k j : Nat) (v : α) : u2 f k j v k = fun b => if b = j then v else f k b := by
  funext b
  simp [u2]
theorem u2_ne {α : Type} (f : Nat → Nat → α) {k q : Nat} (j : Nat) (v : α) (h : q ≠ k) : u2 f k j v q = f q := by
  funext b
  simp [u2, h]
theorem u2_at {α : Type} (f : Nat → Nat → α) (k j : Nat) (v : α) : u2 f k j v k j = v := by simp [u2]
theorem u2_off {α : Type} (f : Nat → Nat → α) (k : Nat) {j q : Nat} (v : α) (h : q ≠ j) : u2 f k j v k q = f k q := by simp [u2, h]
theorem z2_self {α : Type} (f : Nat → Nat → α) (k : Nat) (g : Nat → α) : z2 f k g k = g := by
  funext b
  simp [z2]
theorem z2_ne {α : Type} (f : Nat → Nat → α) {k q : Nat} (g : Nat → α) (h : q ≠ k) : z2 f k g q = f q := by
  funext b
  simp [z2, h]
theorem def_ty {ci : Nat} (h : ci < 11) : ∀ j, j < (clI ci).2.2 → defaultValue (clTy ci j) = if ftag ci j = 2 then .null else .int 0 := by
  match ci, h with
  | 0, _ => decide +kernel
  | 1, _ => decide +kernel
  | 2, _ => decide +kernel
  | 3, _ => decide +kernel
  | 4, _ => decide +kernel
  | 5, _ => decide +kernel
  | 6, _ => decide +kernel
  | 7, _ => decide +kernel
  | 8, _ => decide +kernel
  | 9, _ => decide +kernel
  | 10, _ => decide +kernel
theorem ref_ty {ci : Nat} (h : ci < 11) : ∀ j, j < (clI ci).2.2 → (ftag ci j = 0 ∧ clTy ci j = .int) ∨ (ftag ci j = 1 ∧ clTy ci j = .boolean) ∨ (ftag ci j = 2 ∧ ∀ a : Nat, narrow (clTy ci j) (.ref a) = .ref a ∧ fits (clTy ci j) (.ref a) = true) := by
  intro j hj
  unfold ftag
  have hd := def_ty h j hj
  unfold ftag at hd
  cases hc : clTy ci j with
  | int => exact Or.inl ⟨rfl, rfl⟩
  | boolean => exact Or.inr (Or.inl ⟨rfl, rfl⟩)
  | object n => exact Or.inr (Or.inr ⟨rfl, fun a => ⟨rfl, rfl⟩⟩)
  | array t => exact Or.inr (Or.inr ⟨rfl, fun a => ⟨rfl, rfl⟩⟩)
  | _ => rw [hc] at hd; exact absurd hd (by decide)
theorem my_swap {D : va_G} {cl : List vw_C} {ws : va_W} {b a : Nat} {e1 e2 : va_E} {H : Heap} (h : va_P D cl (ws.set b (a, e1)) H) (he : ∀ H : Heap, va_at D cl (a, e1) H → va_at D cl (a, e2) H) : va_P D cl (ws.set b (a, e2)) H := by
  intro k q hq
  by_cases hk : b = k
  · subst hk
    have hl : b < ws.length := by
      have := (List.getElem?_eq_some_iff.mp hq).1
      rwa [List.length_set] at this
    rw [List.getElem?_set_self hl] at hq
    cases hq
    exact he H (h b (a, e1) (List.getElem?_set_self hl))
  · rw [List.getElem?_set_ne hk] at hq
    exact h k q (by rw [List.getElem?_set_ne hk]; exact hq)
theorem arrV_cg {cA : ClassId} {n : Nat} {f g : Nat → Value} (h : ∀ j, j < n → f j = g j) : arrV cA n f = arrV cA n g := by
  unfold arrV
  have : (Array.ofFn (n := n) fun j => f j.val) = Array.ofFn (n := n) fun j => g j.val := congrArg Array.ofFn (funext fun j => h j.val j.isLt)
  rw [this]
theorem swX_go {pc d : Nat} {x : Int32} {ls : LS0} {st : List Value} {σ : SH} : ∀ (os : List Int) (tb : List (Int32 × Nat)) (lo : Int), vT pc lo os tb = true → -2147483648 ≤ lo → lo + (os.length : Int) ≤ 2147483647 →
    ((x.toInt < lo ∨ lo + (os.length : Int) ≤ x.toInt) ∧ swX x d ls st σ tb = nx d ls st σ) ∨ ∃ (off : Int) (T : Nat), lo ≤ x.toInt ∧ x.toInt < lo + (os.length : Int) ∧ os[(x.toInt - lo).toNat]? = some off ∧ (pc : Int) + off = (T : Int) ∧ swX x d ls st σ tb = nx T ls st σ
  | [], [], lo, _, _, _ => Or.inl ⟨by simp; omega, rfl⟩
  | [], _ :: _, lo, h, _, _ => by simp [vT] at h
  | _ :: _, [], lo, h, _, _ => by simp [vT] at h
  | o :: os, (k, t) :: tb, lo, h, h1, h2 => by
    simp only [vT, Bool.and_eq_true, decide_eq_true_eq] at h
    obtain ⟨⟨hk, ht⟩, hr⟩ := h
    rw [List.length_cons] at h2 ⊢
    have hki : k.toInt = lo := by
      rw [hk]
      exact Int32.toInt_ofInt_of_le (by omega) (by omega)
    by_cases hx : x = k
    · refine Or.inr ⟨o, t, by rw [hx, hki]; omega, by rw [hx, hki]; omega, ?_, ht, ?_⟩
      · rw [hx, hki, Int.sub_self]; rfl
      · show (if x = k then _ else _) = _
        rw [if_pos hx]
    · have hne : x.toInt ≠ lo := fun q => hx (Int32.toInt_inj.mp (by rw [hki]; exact q))
      have hs : swX x d ls st σ ((k, t) :: tb) = swX x d ls st σ tb := by
        show (if x = k then _ else _) = _
        rw [if_neg hx]
      rw [hs]
      rcases swX_go os tb (lo + 1) hr (by omega) (by omega) with ⟨g1, g2⟩ | ⟨off, T, g1, g2, g3, g4, g5⟩
      · exact Or.inl ⟨by omega, g2⟩
      · refine Or.inr ⟨off, T, by omega, by omega, ?_, g4, g5⟩
        have e : (x.toInt - lo).toNat = (x.toInt - (lo + 1)).toNat + 1 := by omega
        rw [e]
        exact g3
