/-! the interpreter's state and the machine's: how they belong together -/
abbrev EX0 : Type := List (Nat × Nat × (Nat → Int32))
def exX (E : EX0) : SX := E.map (fun e => e.2)
def SN (i : Nat) : String := if i = 0 then "SETTING_LEAST" else "SETTING_MOST"
def RO (E : EX0) (A : Nat → Prop) (U : State) (H : Heap) : Prop := (∀ (j : Nat) (e : Nat × Nat × (Nat → Int32)), E[j]? = some e → va_T .int e.1 e.2.1 (fun i => .int (e.2.2 i)) A U H) ∧ ∀ j : Nat, j < 2 → ∃ e, E[j]? = some e ∧ va_Z "SmellInTheHouse" (SN j) "[I" (.ref e.1) A U H
theorem RO.moved {E : EX0} {A : Nat → Prop} {u U : State} {H : Heap} (hvm : u.vm.Alike U.vm) (h : RO E A u H) : RO E A U H :=
  ⟨fun j e he => (h.1 j e he).moved hvm, fun j hj => by obtain ⟨e, h1, h2⟩ := h.2 j hj; exact ⟨e, h1, h2.moved hvm⟩⟩
theorem RO.kept {E : EX0} {A : Nat → Prop} {U : State} {H H1 : Heap} (h : RO E A U H) (hq : ∀ a : Nat, a < H.size → ¬ A a → H1[a]? = H[a]?) : RO E A U H1 :=
  ⟨fun j e he => (h.1 j e he).kept hq, fun j hj => by obtain ⟨e, h1, h2⟩ := h.2 j hj; exact ⟨e, h1, h2.kept hq⟩⟩
theorem RO.narrow {E : EX0} {A B : Nat → Prop} {U : State} {H : Heap} (h : RO E A U H) (hAB : ∀ q, B q → A q) : RO E B U H :=
  ⟨fun j e he => (h.1 j e he).narrow hAB, fun j hj => by obtain ⟨e, h1, h2⟩ := h.2 j hj; exact ⟨e, h1, h2.narrow hAB⟩⟩
/-- the cells keep their addresses -/
def XT (ws ws' : va_W) : Prop := ∀ (k a : Nat) (e : va_E), ws[k]? = some (a, e) → ∃ e', ws'[k]? = some (a, e')
theorem XT.rf {ws : va_W} : XT ws ws := fun _ _ e h => ⟨e, h⟩
theorem XT.tr {a b c : va_W} (h1 : XT a b) (h2 : XT b c) : XT a c := fun k x e h => by
  obtain ⟨e1, h3⟩ := h1 k x e h
  exact h2 k x e1 h3
theorem XT.set {ws : va_W} {k a : Nat} {e0 e : va_E} (h : ws[k]? = some (a, e0)) : XT ws (ws.set k (a, e)) := by
  intro q x f hq
  have hl := (List.getElem?_eq_some_iff.mp h).1
  by_cases hkq : k = q
  · subst hkq
    rw [h] at hq
    cases hq
    exact ⟨e, List.getElem?_set_self hl⟩
  · exact ⟨f, by rw [List.getElem?_set_ne hkq]; exact hq⟩
theorem XT.push {ws : va_W} {x : Nat × va_E} : XT ws (ws ++ [x]) := by
  intro q a f hq
  have hl := (List.getElem?_eq_some_iff.mp hq).1
  exact ⟨f, by rw [List.getElem?_append_left hl]; exact hq⟩
def vR (E : EX0) (ws : va_W) (v w : Value) : Prop := match v with
  | .int a => w = .int a
  | .long a => w = .long a
  | .ref k => ∃ a, w = .ref a ∧ (if k < 4096 then ∃ e, ws[k]? = some (a, e) else ∃ e, E[k - 4096]? = some e ∧ e.1 = a)
  | _ => False
theorem vR.mono {E : EX0} {ws ws' : va_W} (hx : XT ws ws') {v w : Value} (h : vR E ws v w) : vR E ws' v w := by
  cases v with
  | ref k =>
    obtain ⟨a, h1, h2⟩ := h
    refine ⟨a, h1, ?_⟩
    split
    · rename_i hk
      rw [if_pos hk] at h2
      obtain ⟨e, h3⟩ := h2
      exact hx k a e h3
    · rename_i hk
      rw [if_neg hk] at h2
      exact h2
  | int a => exact h
  | long a => exact h
  | _ => exact h.elim
theorem vR.cat {E : EX0} {ws : va_W} {v w : Value} (h : vR E ws v w) : w.category = v.category := by
  cases v with
  | ref k => obtain ⟨a, rfl, -⟩ := h; rfl
  | int a => cases h; rfl
  | long a => cases h; rfl
  | _ => exact h.elim
theorem vR.at {E : EX0} {ws : va_W} {k : Nat} {w : Value} (h : vR E ws (.ref k) w) (hk : k < 4096) {a : Nat} {e : va_E} (hw : ws[k]? = some (a, e)) : w = .ref a := by
  obtain ⟨b, h1, h2⟩ := h
  rw [if_pos hk] at h2
  obtain ⟨e', h3⟩ := h2
  rw [hw] at h3
  cases h3
  exact h1
/-- an object's field -/
def fR (E : EX0) (ws : va_W) (ci j : Nat) (σ : SH) (b : Nat) (w : Value) : Prop := if ftag ci j = 2 then (match σ.2.1 b j with
  | some q => vR E ws (.ref q) w
  | none => w = .null) else w = .int (σ.2.2.1 b j)
theorem fR.mono {E : EX0} {ws ws' : va_W} (hx : XT ws ws') {ci j : Nat} {σ : SH} {b : Nat} {w : Value} (h : fR E ws ci j σ b w) : fR E ws' ci j σ b w := by
  unfold fR at h ⊢
  split
  · rename_i hf
    rw [if_pos hf] at h
    cases hq : σ.2.1 b j with
    | none => rw [hq] at h; exact h
    | some q => rw [hq] at h; exact vR.mono hx h
  · rename_i hf
    rw [if_neg hf] at h
    exact h
def RC (E : EX0) (tys : List (ClassId × FieldType)) (σ : SH) (ws : va_W) (k : Nat) (t : Nat × Nat) : Prop := match t.1 with
  | 0 => t.2 < 11 ∧ ∃ (a : Nat) (fs : List Value), ws[k]? = some (a, .inr (t.2, fs)) ∧ fs.length = (clI t.2).2.2 ∧ ∀ j, j < (clI t.2).2.2 → ∃ w, fs[j]? = some w ∧ fR E ws t.2 j σ k w
  | 1 => ∃ (a : Nat) (cA : ClassId) (t0 : Nat), ws[k]? = some (a, .inl (cA, t.2, .inl (σ.2.2.1 k))) ∧ tys[t0]? = some (cA, .int)
  | 2 => ∃ (a : Nat) (cA : ClassId) (t0 : Nat), ws[k]? = some (a, .inl (cA, t.2, .inr (.inl (σ.2.2.2 k)))) ∧ tys[t0]? = some (cA, .long)
  | _ => False
def REL (E : EX0) (tys : List (ClassId × FieldType)) (σ : SH) (ws : va_W) : Prop := ws.length = σ.1.length ∧ ∀ (k : Nat) (t : Nat × Nat), σ.1[k]? = some t → RC E tys σ ws k t
def slz : List (Nat × Nat) → Nat
  | [] => 0
  | t :: r => (if t.1 = 0 then (clI t.2).2.2 else t.2) + slz r
theorem slz_app (a b : List (Nat × Nat)) : slz (a ++ b) = slz a + slz b := by
  induction a with
  | nil => simp [slz]
  | cons x r ih => simp only [List.cons_append, slz, ih]; omega
/-- locals and stack -/
def LR (E : EX0) (ws : va_W) (ls : LS0) (mls : Array Slot) (nL : Nat) : Prop := lv_has mls nL [] ∧ ls.length = nL ∧ ∀ (i : Nat) (v : Value), ls[i]? = some (some v) → ∃ w, vR E ws v w ∧ mls[i]? = some (.val w)
theorem LR.mono {E : EX0} {ws ws' : va_W} (hx : XT ws ws') {ls : LS0} {mls : Array Slot} {nL : Nat} (h : LR E ws ls mls nL) : LR E ws' ls mls nL :=
  ⟨h.1, h.2.1, fun i v hi => by obtain ⟨w, h1, h2⟩ := h.2.2 i v hi; exact ⟨w, vR.mono hx h1, h2⟩⟩
def SR (E : EX0) (ws : va_W) : List Value → List Value → Prop
  | [], [] => True
  | v :: r, w :: r' => vR E ws v w ∧ SR E ws r r'
  | _, _ => False
theorem SR.mono {E : EX0} {ws ws' : va_W} (hx : XT ws ws') : ∀ {st mst : List Value}, SR E ws st mst → SR E ws' st mst
  | [], [], _ => trivial
  | v :: r, w :: r', h => ⟨vR.mono hx h.1, SR.mono hx h.2⟩
theorem SR.cons {E : EX0} {ws : va_W} {v : Value} {r mst : List Value} (h : SR E ws (v :: r) mst) : ∃ w r', mst = w :: r' ∧ vR E ws v w ∧ SR E ws r r' := by
  cases mst with
  | nil => exact h.elim
  | cons w r' => exact ⟨w, r', rfl, h.1, h.2⟩
theorem SR.int {E : EX0} {ws : va_W} {x : Int32} {r mst : List Value} (h : SR E ws (.int x :: r) mst) : ∃ r', mst = .int x :: r' ∧ SR E ws r r' := by
  obtain ⟨w, r', h1, h2, h3⟩ := h.cons
  cases h2
  exact ⟨r', h1, h3⟩
theorem SR.long {E : EX0} {ws : va_W} {x : Int64} {r mst : List Value} (h : SR E ws (.long x :: r) mst) : ∃ r', mst = .long x :: r' ∧ SR E ws r r' := by
  obtain ⟨w, r', h1, h2, h3⟩ := h.cons
  cases h2
  exact ⟨r', h1, h3⟩
theorem SR.ref {E : EX0} {ws : va_W} {x : Nat} {r mst : List Value} (h : SR E ws (.ref x :: r) mst) : ∃ a r', mst = .ref a :: r' ∧ vR E ws (.ref x) (.ref a) ∧ SR E ws r r' := by
  obtain ⟨w, r', h1, ⟨a, rfl, h2⟩, h3⟩ := h.cons
  exact ⟨a, r', h1, ⟨a, rfl, h2⟩, h3⟩
theorem SR.nil {E : EX0} {ws : va_W} {mst : List Value} (h : SR E ws [] mst) : mst = [] := by
  cases mst with
  | nil => rfl
  | cons w r' => exact h.elim
theorem SR.cs {E : EX0} {ws : va_W} : ∀ {st mst : List Value}, SR E ws st mst → (mst.map fun v => v.category).sum = cS st
  | [], [], _ => rfl
  | v :: r, w :: r', h => by
    have h1 := SR.cs h.2
    have h2 := h.1.cat
    simp only [List.map_cons, List.sum_cons, h1, h2]
    cases v <;> rfl
theorem SR.app {E : EX0} {ws : va_W} : ∀ {a b ma mb : List Value}, SR E ws a ma → SR E ws b mb → SR E ws (a ++ b) (ma ++ mb)
  | [], _, [], _, _, h => h
  | _ :: _, _, _ :: _, _, h1, h2 => ⟨h1.1, SR.app h1.2 h2⟩
theorem SR.split {E : EX0} {ws : va_W} : ∀ {a b mst : List Value}, SR E ws (a ++ b) mst → ∃ ma mb, mst = ma ++ mb ∧ SR E ws a ma ∧ SR E ws b mb
  | [], b, mst, h => ⟨[], mst, rfl, trivial, h⟩
  | v :: r, b, mst, h => by
    obtain ⟨w, r', rfl, h1, h2⟩ := SR.cons h
    obtain ⟨ma, mb, rfl, h3, h4⟩ := SR.split h2
    exact ⟨w :: ma, mb, rfl, ⟨h1, h3⟩, h4⟩
theorem SR.rev {E : EX0} {ws : va_W} : ∀ {a ma : List Value}, SR E ws a ma → SR E ws a.reverse ma.reverse
  | [], [], _ => trivial
  | v :: r, w :: r', h => by
    rw [List.reverse_cons, List.reverse_cons]
    exact SR.app (SR.rev h.2) ⟨h.1, trivial⟩
theorem SR.len {E : EX0} {ws : va_W} : ∀ {a ma : List Value}, SR E ws a ma → ma.length = a.length
  | [], [], _ => rfl
  | _ :: _, _ :: _, h => by simp [SR.len h.2]
/-- all that the machine's locals hold -/
def lvAll (mls : Array Slot) : List (Nat × Value) := (List.range mls.size).filterMap (fun (j : Nat) => match mls[j]? with | some (Slot.val w) => some (j, w) | _ => none)
theorem lvAll_mem {mls : Array Slot} {j : Nat} {w : Value} : (j, w) ∈ lvAll mls ↔ mls[j]? = some (.val w) := by
  unfold lvAll
  rw [List.mem_filterMap]
  constructor
  · rintro ⟨i, -, hi⟩
    split at hi
    · rename_i h; cases hi; exact h
    · cases hi
  · intro h
    refine ⟨j, List.mem_range.mpr (Array.getElem?_eq_some_iff.mp h).1, ?_⟩
    rw [h]
theorem lvAll_has {mls : Array Slot} {nL : Nat} (h : lv_has mls nL []) : lv_has mls nL (lvAll mls) := ⟨h.1, h.2.1, fun q hq => lvAll_mem.mp hq⟩
theorem lv_none {mls : Array Slot} {nL : Nat} {l : List (Nat × Value)} (h : lv_has mls nL l) : lv_has mls nL [] := ⟨h.1, h.2.1, fun q hq => by cases hq⟩
theorem stK_len (i : Nat) (ls : LS0) : (stK i ls).length = ls.length := by
  unfold stK
  split
  · rfl
  · split <;> simp
theorem stK_at {i j : Nat} {ls : LS0} {v : Value} (h : (stK i ls)[j]? = some (some v)) : ls[j]? = some (some v) ∧ ¬ (j + 1 = i ∧ v.category = 2) := by
  unfold stK at h
  split at h
  · exact ⟨h, fun q => by omega⟩
  · rename_i i'
    have key : ∀ (u : Value), ls[i']? = some (some u) → u.category = 2 → (ls.set i' none)[j]? = some (some v) → ls[j]? = some (some v) ∧ ¬ (j + 1 = i' + 1 ∧ v.category = 2) := by
      intro u hu hc hs
      by_cases hj : i' = j
      · subst hj
        rw [List.getElem?_set_self (List.getElem?_eq_some_iff.mp hu).1] at hs
        cases hs
      · rw [List.getElem?_set_ne hj] at hs
        exact ⟨hs, fun q => hj (by omega)⟩
    split at h
    · rename_i hu; exact key _ hu rfl h
    · rename_i hu; exact key _ hu rfl h
    · rename_i hn1 hn2
      refine ⟨h, fun q => ?_⟩
      have hji : j = i' := by omega
      subst hji
      cases v with
      | long x => exact hn1 x h
      | double x => exact hn2 x h
      | _ => exact absurd q.2 (by simp [Value.category])
theorem LR.st1 {E : EX0} {ws : va_W} {ls : LS0} {mls mls' : Array Slot} {nL i : Nat} {v w : Value} (h : LR E ws ls mls nL) (hi : i < nL) (hv : vR E ws v w)
    (hm : lv_has mls' nL ((i, w) :: (lvAll mls).filter (fun q => !(q.1 == i) && !(q.1 + 1 == i && q.2.category == 2)))) : LR E ws (stS i v ls) mls' nL := by
  obtain ⟨h1, h2, h3⟩ := h
  refine ⟨lv_none hm, by unfold stS; rw [List.length_set, stK_len]; exact h2, fun j u hj => ?_⟩
  unfold stS at hj
  by_cases hij : i = j
  · subst hij
    rw [List.getElem?_set_self (by rw [stK_len, h2]; exact hi)] at hj
    cases hj
    exact ⟨w, hv, hm.2.2 (i, w) List.mem_cons_self⟩
  · rw [List.getElem?_set_ne hij] at hj
    obtain ⟨g1, g2⟩ := stK_at hj
    obtain ⟨x, g3, g4⟩ := h3 j u g1
    refine ⟨x, g3, hm.2.2 (j, x) (List.mem_cons_of_mem _ (List.mem_filter.mpr ⟨lvAll_mem.mpr g4, ?_⟩))⟩
    have hc := g3.cat
    simp only [Bool.and_eq_true, Bool.not_eq_true', Bool.and_eq_false_iff, beq_eq_false_iff_ne, ne_eq]
    refine ⟨fun q => hij q.symm, ?_⟩
    by_cases q : j + 1 = i
    · exact Or.inr (fun q2 => g2 ⟨q, by rw [← hc]; exact q2⟩)
    · exact Or.inl q
theorem LR.st2 {E : EX0} {ws : va_W} {ls : LS0} {mls mls' : Array Slot} {nL i : Nat} {v w : Value} (h : LR E ws ls mls nL) (hi : i + 1 < nL) (hv : vR E ws v w)
    (hm : lv_has mls' nL ((i, w) :: (lvAll mls).filter (fun q => !(q.1 == i) && (!(q.1 == i + 1) && !(q.1 + 1 == i && q.2.category == 2))))) : LR E ws (stD i v ls) mls' nL := by
  obtain ⟨h1, h2, h3⟩ := h
  refine ⟨lv_none hm, by unfold stD; rw [List.length_set, List.length_set, stK_len]; exact h2, fun j u hj => ?_⟩
  unfold stD at hj
  by_cases hij1 : i + 1 = j
  · subst hij1
    rw [List.getElem?_set_self (by rw [List.length_set, stK_len, h2]; exact hi)] at hj
    cases hj
  · rw [List.getElem?_set_ne hij1] at hj
    by_cases hij : i = j
    · subst hij
      rw [List.getElem?_set_self (by rw [stK_len, h2]; omega)] at hj
      cases hj
      exact ⟨w, hv, hm.2.2 (i, w) List.mem_cons_self⟩
    · rw [List.getElem?_set_ne hij] at hj
      obtain ⟨g1, g2⟩ := stK_at hj
      obtain ⟨x, g3, g4⟩ := h3 j u g1
      refine ⟨x, g3, hm.2.2 (j, x) (List.mem_cons_of_mem _ (List.mem_filter.mpr ⟨lvAll_mem.mpr g4, ?_⟩))⟩
      have hc := g3.cat
      simp only [Bool.and_eq_true, Bool.not_eq_true', Bool.and_eq_false_iff, beq_eq_false_iff_ne, ne_eq]
      refine ⟨fun q => hij q.symm, fun q => hij1 q.symm, ?_⟩
      by_cases q : j + 1 = i
      · exact Or.inr (fun q2 => g2 ⟨q, by rw [← hc]; exact q2⟩)
      · exact Or.inl q
/-- the locals at the entry -/
theorem LR.entry_go {E : EX0} {ws : va_W} : ∀ {as mas : List Value}, SR E ws as mas → (lg_sl mas).length = (slv as).length ∧ ∀ (i : Nat) (v : Value), (slv as)[i]? = some (some v) → ∃ w, vR E ws v w ∧ (lg_sl mas)[i]? = some (.val w)
  | [], [], _ => ⟨rfl, fun i v h => by simp [slv] at h⟩
  | v :: r, w :: r', h => by
    obtain ⟨h1, h2⟩ := LR.entry_go h.2
    have hc := h.1.cat
    have one : v.category = 1 → slv (v :: r) = some v :: slv r := by
      intro q
      cases v <;> first | rfl | (exact absurd q (by simp [Value.category]))
    have two : v.category = 2 → slv (v :: r) = some v :: none :: slv r := by
      intro q
      cases v <;> first | rfl | (exact absurd q (by simp [Value.category]))
    rcases lv_cat v with q | q
    · rw [one q]
      have e : lg_sl (w :: r') = Slot.val w :: lg_sl r' := by
        unfold lg_sl
        rw [List.flatMap_cons, if_neg (by rw [hc, q]; decide)]
        rfl
      rw [e]
      refine ⟨by simp [h1], fun i u hi => ?_⟩
      cases i with
      | zero => cases hi; exact ⟨w, h.1, rfl⟩
      | succ i => exact h2 i u hi
    · rw [two q]
      have e : lg_sl (w :: r') = Slot.val w :: Slot.second :: lg_sl r' := by
        unfold lg_sl
        rw [List.flatMap_cons, if_pos (by rw [hc, q])]
        rfl
      rw [e]
      refine ⟨by simp [h1], fun i u hi => ?_⟩
      cases i with
      | zero => cases hi; exact ⟨w, h.1, rfl⟩
      | succ i =>
        cases i with
        | zero => cases hi
        | succ i => exact h2 i u hi
theorem LR.entry {E : EX0} {ws : va_W} {as mas : List Value} (h : SR E ws as mas) {n : Nat} (hn : (slv as).length ≤ n) : LR E ws (entL n as) ((lg_sl mas ++ List.replicate (n - (lg_sl mas).length) Slot.unset).toArray) n := by
  obtain ⟨h1, h2⟩ := LR.entry_go h
  refine ⟨lv_none (lv_entry mas (by rw [h1]; exact hn)), by unfold entL; rw [List.length_append, List.length_replicate]; omega, fun i v hi => ?_⟩
  unfold entL at hi
  by_cases hl : i < (slv as).length
  · rw [List.getElem?_append_left hl] at hi
    obtain ⟨w, h3, h4⟩ := h2 i v hi
    refine ⟨w, h3, ?_⟩
    rw [List.getElem?_toArray, List.getElem?_append_left (by omega)]
    exact h4
  · rw [List.getElem?_append_right (by omega)] at hi
    have := List.mem_of_getElem? hi
    have := List.eq_of_mem_replicate this
    cases this
