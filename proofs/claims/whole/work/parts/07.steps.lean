/-! one step of the interpreter is one step of the machine (printed by wip/whole/gen2.py) -/
def FC (k : Nat) (p : Program) (R : Room) (s : State) (m : MethodId) (args : Array Value) (meth : Method) (c : Code) (A : Nat → Prop) (E : EX0) : Prop :=
  p.tables.exec = Jvm.exec ∧ c.code = mB k ∧ c.maxLocals = mL k ∧ s.vm.findClass (cn (mO k)) = some m.cls ∧ (∀ w ∈ ALLG, w.before args s = true) ∧ (∀ w ∈ NEST, va_Nw w s) ∧ ((mN k).name = "<init>" → meth.name = "<init>") ∧ (∀ q, s.heap.size ≤ q → A q) ∧ RO E A s s.heap ∧ mK k ≤ R.frames ∧ 43 * mK k ≤ R.locals
def SS (E : EX0) (D : va_G) (A : Nat → Prop) (s : State) (σ : SH) (ls : LS0) (st : List Value) (H : Heap) (locs : List Loc) (ws : va_W) (tys : List (ClassId × FieldType)) (mls : Array Slot) (mst : List Value) (nL : Nat) : Prop :=
  va_K D vwCl tys s ∧ va_P D vwCl ws H ∧ va_D A ws ∧ va_S A s.heap H locs ∧ REL E tys σ ws ∧ LR E ws ls mls nL ∧ SR E ws st mst
def KKp (E : EX0) (D : va_G) (A : Nat → Prop) (b bs nL : Nat) (p : Program) (l : Launch) (e : Env) (R : Room) (s : State) (m : MethodId) (args : Array Value) (below : List Frame) (meth : Method) (c : Code) (QQ : State → Prop) (ws : va_W) (pc' : Nat) (ls' : LS0) (st' : List Value) (σ1 : SH) : Prop :=
  ∀ (H1 : Heap) (locs1 : List Loc) (ws1 : va_W) (tys1 : List (ClassId × FieldType)) (mls1 : Array Slot) (mst1 : List Value) (cells1 slots1 : Nat), XT ws ws1 → SS E D A s σ1 ls' st' H1 locs1 ws1 tys1 mls1 mst1 nL → cells1 + b = σ1.1.length → slots1 + bs = slz σ1.1 → W p l e R s m args below meth c H1 locs1 cells1 slots1 QQ (F0 m pc' mls1 mst1)
theorem inb_of {i : Int32} {n : Nat} (h : 0 ≤ i ∧ i.toNatClampNeg < n) : vp_in i n := by
  rintro (q | q)
  · rw [Int32.lt_iff_toInt_lt] at q
    have := Int32.le_iff_toInt_le.mp h.1
    omega
  · omega
theorem s_push {p : Program} {l : Launch} {e : Env} {R : Room} {s : State} {m : MethodId} {args : Array Value} {below : List Frame} {meth : Method} {c : Code} {QQ : State → Prop} {D : va_G} {A : Nat → Prop} {E : EX0} {k b bs pc pc' : Nat} {ls ls' : LS0} {st st' : List Value} {σ σ1 : SH} {H : Heap} {locs : List Loc} {ws : va_W} {tys : List (ClassId × FieldType)} {mls : Array Slot} {mst : List Value} {cells slots : Nat} (C : FC k p R s m args meth c A E) (S : SS E D A s σ ls st H locs ws tys mls mst (mL k)) (hcs : cells + b = σ.1.length ∧ slots + bs = slz σ.1) (hcap : σ1.1.length ≤ b + R.cells ∧ slz σ1.1 ≤ bs + R.slots) {v w : Value} (hv : vR E ws v w) {n : Nat} (row : ∀ rest : List Value, W p l e R s m args below meth c H locs cells slots QQ (F0 m n mls (w :: rest)) → W p l e R s m args below meth c H locs cells slots QQ (F0 m pc mls rest)) (h : nx n ls (v :: st) σ = some (.inl (pc', ls', st', σ1))) (K : KKp E D A b bs (mL k) p l e R s m args below meth c QQ ws pc' ls' st' σ1) : W p l e R s m args below meth c H locs cells slots QQ (F0 m pc mls mst) := by
  obtain ⟨hx, hb, hml, hown, hts, hnw, hnm, hA, hro, hfr, hlo⟩ := C
  obtain ⟨hK, hP, hD, hS, hR, hL, hT⟩ := S
  unfold nx at h
  cases h
  refine row _ ?_
  exact K H locs ws tys mls _ cells slots XT.rf ⟨hK, hP, hD, hS, hR, hL, ⟨hv, hT⟩⟩ hcs.1 hcs.2
theorem s_ild {p : Program} {l : Launch} {e : Env} {R : Room} {s : State} {m : MethodId} {args : Array Value} {below : List Frame} {meth : Method} {c : Code} {QQ : State → Prop} {D : va_G} {A : Nat → Prop} {E : EX0} {k b bs pc pc' : Nat} {ls ls' : LS0} {st st' : List Value} {σ σ1 : SH} {H : Heap} {locs : List Loc} {ws : va_W} {tys : List (ClassId × FieldType)} {mls : Array Slot} {mst : List Value} {cells slots : Nat} (C : FC k p R s m args meth c A E) (S : SS E D A s σ ls st H locs ws tys mls mst (mL k)) (hcs : cells + b = σ.1.length ∧ slots + bs = slz σ.1) (hcap : σ1.1.length ≤ b + R.cells ∧ slz σ1.1 ≤ bs + R.slots) {i n : Nat} (row : ∀ (x : Int32) (rest : List Value), mls[i]? = some (.val (.int x)) → W p l e R s m args below meth c H locs cells slots QQ (F0 m n mls (.int x :: rest)) → W p l e R s m args below meth c H locs cells slots QQ (F0 m pc mls rest)) (h : oILd i n ls st σ = some (.inl (pc', ls', st', σ1))) (K : KKp E D A b bs (mL k) p l e R s m args below meth c QQ ws pc' ls' st' σ1) : W p l e R s m args below meth c H locs cells slots QQ (F0 m pc mls mst) := by
  obtain ⟨hx, hb, hml, hown, hts, hnw, hnm, hA, hro, hfr, hlo⟩ := C
  obtain ⟨hK, hP, hD, hS, hR, hL, hT⟩ := S
  unfold oILd at h
  split at h
  · rename_i x hx2
    unfold nx at h
    cases h
    obtain ⟨w, h1, h2⟩ := hL.2.2 _ _ hx2
    cases h1
    refine row x _ h2 ?_
    exact K H locs ws tys mls _ cells slots XT.rf ⟨hK, hP, hD, hS, hR, hL, ⟨rfl, hT⟩⟩ hcs.1 hcs.2
  · cases h
theorem s_lld {p : Program} {l : Launch} {e : Env} {R : Room} {s : State} {m : MethodId} {args : Array Value} {below : List Frame} {meth : Method} {c : Code} {QQ : State → Prop} {D : va_G} {A : Nat → Prop} {E : EX0} {k b bs pc pc' : Nat} {ls ls' : LS0} {st st' : List Value} {σ σ1 : SH} {H : Heap} {locs : List Loc} {ws : va_W} {tys : List (ClassId × FieldType)} {mls : Array Slot} {mst : List Value} {cells slots : Nat} (C : FC k p R s m args meth c A E) (S : SS E D A s σ ls st H locs ws tys mls mst (mL k)) (hcs : cells + b = σ.1.length ∧ slots + bs = slz σ.1) (hcap : σ1.1.length ≤ b + R.cells ∧ slz σ1.1 ≤ bs + R.slots) {i n : Nat} (row : ∀ (x : Int64) (rest : List Value), mls[i]? = some (.val (.long x)) → W p l e R s m args below meth c H locs cells slots QQ (F0 m n mls (.long x :: rest)) → W p l e R s m args below meth c H locs cells slots QQ (F0 m pc mls rest)) (h : oLLd i n ls st σ = some (.inl (pc', ls', st', σ1))) (K : KKp E D A b bs (mL k) p l e R s m args below meth c QQ ws pc' ls' st' σ1) : W p l e R s m args below meth c H locs cells slots QQ (F0 m pc mls mst) := by
  obtain ⟨hx, hb, hml, hown, hts, hnw, hnm, hA, hro, hfr, hlo⟩ := C
  obtain ⟨hK, hP, hD, hS, hR, hL, hT⟩ := S
  unfold oLLd at h
  split at h
  · rename_i x hx2
    unfold nx at h
    cases h
    obtain ⟨w, h1, h2⟩ := hL.2.2 _ _ hx2
    cases h1
    refine row x _ h2 ?_
    exact K H locs ws tys mls _ cells slots XT.rf ⟨hK, hP, hD, hS, hR, hL, ⟨rfl, hT⟩⟩ hcs.1 hcs.2
  · cases h
theorem s_ald {p : Program} {l : Launch} {e : Env} {R : Room} {s : State} {m : MethodId} {args : Array Value} {below : List Frame} {meth : Method} {c : Code} {QQ : State → Prop} {D : va_G} {A : Nat → Prop} {E : EX0} {k b bs pc pc' : Nat} {ls ls' : LS0} {st st' : List Value} {σ σ1 : SH} {H : Heap} {locs : List Loc} {ws : va_W} {tys : List (ClassId × FieldType)} {mls : Array Slot} {mst : List Value} {cells slots : Nat} (C : FC k p R s m args meth c A E) (S : SS E D A s σ ls st H locs ws tys mls mst (mL k)) (hcs : cells + b = σ.1.length ∧ slots + bs = slz σ.1) (hcap : σ1.1.length ≤ b + R.cells ∧ slz σ1.1 ≤ bs + R.slots) {i n : Nat} (row : ∀ (x : Nat) (rest : List Value), mls[i]? = some (.val (.ref x)) → W p l e R s m args below meth c H locs cells slots QQ (F0 m n mls (.ref x :: rest)) → W p l e R s m args below meth c H locs cells slots QQ (F0 m pc mls rest)) (h : oALd i n ls st σ = some (.inl (pc', ls', st', σ1))) (K : KKp E D A b bs (mL k) p l e R s m args below meth c QQ ws pc' ls' st' σ1) : W p l e R s m args below meth c H locs cells slots QQ (F0 m pc mls mst) := by
  obtain ⟨hx, hb, hml, hown, hts, hnw, hnm, hA, hro, hfr, hlo⟩ := C
  obtain ⟨hK, hP, hD, hS, hR, hL, hT⟩ := S
  unfold oALd at h
  split at h
  · rename_i x hx2
    unfold nx at h
    cases h
    obtain ⟨w, h1, h2⟩ := hL.2.2 _ _ hx2
    obtain ⟨a, rfl, h3⟩ := h1
    refine row a _ h2 ?_
    exact K H locs ws tys mls _ cells slots XT.rf ⟨hK, hP, hD, hS, hR, hL, ⟨⟨a, rfl, h3⟩, hT⟩⟩ hcs.1 hcs.2
  · cases h
theorem s_ist {p : Program} {l : Launch} {e : Env} {R : Room} {s : State} {m : MethodId} {args : Array Value} {below : List Frame} {meth : Method} {c : Code} {QQ : State → Prop} {D : va_G} {A : Nat → Prop} {E : EX0} {k b bs pc pc' : Nat} {ls ls' : LS0} {st st' : List Value} {σ σ1 : SH} {H : Heap} {locs : List Loc} {ws : va_W} {tys : List (ClassId × FieldType)} {mls : Array Slot} {mst : List Value} {cells slots : Nat} (C : FC k p R s m args meth c A E) (S : SS E D A s σ ls st H locs ws tys mls mst (mL k)) (hcs : cells + b = σ.1.length ∧ slots + bs = slz σ.1) (hcap : σ1.1.length ≤ b + R.cells ∧ slz σ1.1 ≤ bs + R.slots) {i n : Nat} (row : ∀ (x : Int32) (rest : List Value), i < mL k → lv_has mls (mL k) (lvAll mls) → (∀ mls' : Array Slot, lv_has mls' (mL k) ((i, .int x) :: (lvAll mls).filter (fun q => !(q.1 == i) && !(q.1 + 1 == i && q.2.category == 2))) → W p l e R s m args below meth c H locs cells slots QQ (F0 m n mls' rest)) → W p l e R s m args below meth c H locs cells slots QQ (F0 m pc mls (.int x :: rest))) (h : oISt i n ls st σ = some (.inl (pc', ls', st', σ1))) (K : KKp E D A b bs (mL k) p l e R s m args below meth c QQ ws pc' ls' st' σ1) : W p l e R s m args below meth c H locs cells slots QQ (F0 m pc mls mst) := by
  obtain ⟨hx, hb, hml, hown, hts, hnw, hnm, hA, hro, hfr, hlo⟩ := C
  obtain ⟨hK, hP, hD, hS, hR, hL, hT⟩ := S
  unfold oISt at h
  split at h
  · rename_i x r
    split at h
    · rename_i hi
      rw [hL.2.1] at hi
      unfold nx at h
      cases h
      obtain ⟨r2, rfl, h2⟩ := hT.int
      refine row x r2 hi (lvAll_has hL.1) (fun mls' hm => ?_)
      exact K H locs ws tys mls' _ cells slots XT.rf ⟨hK, hP, hD, hS, hR, hL.st1 hi rfl hm, h2⟩ hcs.1 hcs.2
    · cases h
  · cases h
theorem s_ast {p : Program} {l : Launch} {e : Env} {R : Room} {s : State} {m : MethodId} {args : Array Value} {below : List Frame} {meth : Method} {c : Code} {QQ : State → Prop} {D : va_G} {A : Nat → Prop} {E : EX0} {k b bs pc pc' : Nat} {ls ls' : LS0} {st st' : List Value} {σ σ1 : SH} {H : Heap} {locs : List Loc} {ws : va_W} {tys : List (ClassId × FieldType)} {mls : Array Slot} {mst : List Value} {cells slots : Nat} (C : FC k p R s m args meth c A E) (S : SS E D A s σ ls st H locs ws tys mls mst (mL k)) (hcs : cells + b = σ.1.length ∧ slots + bs = slz σ.1) (hcap : σ1.1.length ≤ b + R.cells ∧ slz σ1.1 ≤ bs + R.slots) {i n : Nat} (row : ∀ (x : Nat) (rest : List Value), i < mL k → lv_has mls (mL k) (lvAll mls) → (∀ mls' : Array Slot, lv_has mls' (mL k) ((i, .ref x) :: (lvAll mls).filter (fun q => !(q.1 == i) && !(q.1 + 1 == i && q.2.category == 2))) → W p l e R s m args below meth c H locs cells slots QQ (F0 m n mls' rest)) → W p l e R s m args below meth c H locs cells slots QQ (F0 m pc mls (.ref x :: rest))) (h : oASt i n ls st σ = some (.inl (pc', ls', st', σ1))) (K : KKp E D A b bs (mL k) p l e R s m args below meth c QQ ws pc' ls' st' σ1) : W p l e R s m args below meth c H locs cells slots QQ (F0 m pc mls mst) := by
  obtain ⟨hx, hb, hml, hown, hts, hnw, hnm, hA, hro, hfr, hlo⟩ := C
  obtain ⟨hK, hP, hD, hS, hR, hL, hT⟩ := S
  unfold oASt at h
  split at h
  · rename_i x r
    split at h
    · rename_i hi
      rw [hL.2.1] at hi
      unfold nx at h
      cases h
      obtain ⟨a, r2, rfl, h3, h2⟩ := hT.ref
      refine row a r2 hi (lvAll_has hL.1) (fun mls' hm => ?_)
      exact K H locs ws tys mls' _ cells slots XT.rf ⟨hK, hP, hD, hS, hR, hL.st1 hi h3 hm, h2⟩ hcs.1 hcs.2
    · cases h
  · cases h
theorem s_lst {p : Program} {l : Launch} {e : Env} {R : Room} {s : State} {m : MethodId} {args : Array Value} {below : List Frame} {meth : Method} {c : Code} {QQ : State → Prop} {D : va_G} {A : Nat → Prop} {E : EX0} {k b bs pc pc' : Nat} {ls ls' : LS0} {st st' : List Value} {σ σ1 : SH} {H : Heap} {locs : List Loc} {ws : va_W} {tys : List (ClassId × FieldType)} {mls : Array Slot} {mst : List Value} {cells slots : Nat} (C : FC k p R s m args meth c A E) (S : SS E D A s σ ls st H locs ws tys mls mst (mL k)) (hcs : cells + b = σ.1.length ∧ slots + bs = slz σ.1) (hcap : σ1.1.length ≤ b + R.cells ∧ slz σ1.1 ≤ bs + R.slots) {i n : Nat} (row : ∀ (x : Int64) (rest : List Value), i + 1 < mL k → lv_has mls (mL k) (lvAll mls) → (∀ mls' : Array Slot, lv_has mls' (mL k) ((i, .long x) :: (lvAll mls).filter (fun q => !(q.1 == i) && (!(q.1 == i + 1) && !(q.1 + 1 == i && q.2.category == 2)))) → W p l e R s m args below meth c H locs cells slots QQ (F0 m n mls' rest)) → W p l e R s m args below meth c H locs cells slots QQ (F0 m pc mls (.long x :: rest))) (h : oLSt i n ls st σ = some (.inl (pc', ls', st', σ1))) (K : KKp E D A b bs (mL k) p l e R s m args below meth c QQ ws pc' ls' st' σ1) : W p l e R s m args below meth c H locs cells slots QQ (F0 m pc mls mst) := by
  obtain ⟨hx, hb, hml, hown, hts, hnw, hnm, hA, hro, hfr, hlo⟩ := C
  obtain ⟨hK, hP, hD, hS, hR, hL, hT⟩ := S
  unfold oLSt at h
  split at h
  · rename_i x r
    split at h
    · rename_i hi
      rw [hL.2.1] at hi
      unfold nx at h
      cases h
      obtain ⟨r2, rfl, h2⟩ := hT.long
      refine row x r2 hi (lvAll_has hL.1) (fun mls' hm => ?_)
      exact K H locs ws tys mls' _ cells slots XT.rf ⟨hK, hP, hD, hS, hR, hL.st2 hi rfl hm, h2⟩ hcs.1 hcs.2
    · cases h
  · cases h
theorem s_inc {p : Program} {l : Launch} {e : Env} {R : Room} {s : State} {m : MethodId} {args : Array Value} {below : List Frame} {meth : Method} {c : Code} {QQ : State → Prop} {D : va_G} {A : Nat → Prop} {E : EX0} {k b bs pc pc' : Nat} {ls ls' : LS0} {st st' : List Value} {σ σ1 : SH} {H : Heap} {locs : List Loc} {ws : va_W} {tys : List (ClassId × FieldType)} {mls : Array Slot} {mst : List Value} {cells slots : Nat} (C : FC k p R s m args meth c A E) (S : SS E D A s σ ls st H locs ws tys mls mst (mL k)) (hcs : cells + b = σ.1.length ∧ slots + bs = slz σ.1) (hcap : σ1.1.length ≤ b + R.cells ∧ slz σ1.1 ≤ bs + R.slots) {i n : Nat} {v : Int32} (hi : i < mL k) (row : ∀ (x : Int32) (q : Nat), lv_has mls (mL k) (lvAll mls) → (lvAll mls)[q]? = some (i, .int x) → (∀ mls' : Array Slot, lv_has mls' (mL k) ((i, .int (x + v)) :: (lvAll mls).filter (fun q => !(q.1 == i) && !(q.1 + 1 == i && q.2.category == 2))) → W p l e R s m args below meth c H locs cells slots QQ (F0 m n mls' mst)) → W p l e R s m args below meth c H locs cells slots QQ (F0 m pc mls mst)) (h : oInc i v n ls st σ = some (.inl (pc', ls', st', σ1))) (K : KKp E D A b bs (mL k) p l e R s m args below meth c QQ ws pc' ls' st' σ1) : W p l e R s m args below meth c H locs cells slots QQ (F0 m pc mls mst) := by
  obtain ⟨hx, hb, hml, hown, hts, hnw, hnm, hA, hro, hfr, hlo⟩ := C
  obtain ⟨hK, hP, hD, hS, hR, hL, hT⟩ := S
  unfold oInc at h
  split at h
  · rename_i x hx2
    unfold nx at h
    cases h
    obtain ⟨w, h1, h2⟩ := hL.2.2 _ _ hx2
    cases h1
    obtain ⟨q, hq⟩ := List.getElem?_of_mem (lvAll_mem.mpr h2)
    refine row x q (lvAll_has hL.1) hq (fun mls' hm => ?_)
    exact K H locs ws tys mls' _ cells slots XT.rf ⟨hK, hP, hD, hS, hR, hL.st1 hi rfl hm, hT⟩ hcs.1 hcs.2
  · cases h
theorem s_i2 {p : Program} {l : Launch} {e : Env} {R : Room} {s : State} {m : MethodId} {args : Array Value} {below : List Frame} {meth : Method} {c : Code} {QQ : State → Prop} {D : va_G} {A : Nat → Prop} {E : EX0} {k b bs pc pc' : Nat} {ls ls' : LS0} {st st' : List Value} {σ σ1 : SH} {H : Heap} {locs : List Loc} {ws : va_W} {tys : List (ClassId × FieldType)} {mls : Array Slot} {mst : List Value} {cells slots : Nat} (C : FC k p R s m args meth c A E) (S : SS E D A s σ ls st H locs ws tys mls mst (mL k)) (hcs : cells + b = σ.1.length ∧ slots + bs = slz σ.1) (hcap : σ1.1.length ≤ b + R.cells ∧ slz σ1.1 ≤ bs + R.slots) {f : Int32 → Int32 → Int32} {n : Nat} (row : ∀ (x y : Int32) (rest : List Value), W p l e R s m args below meth c H locs cells slots QQ (F0 m n mls (.int (f x y) :: rest)) → W p l e R s m args below meth c H locs cells slots QQ (F0 m pc mls (.int y :: .int x :: rest))) (h : oI2 f n ls st σ = some (.inl (pc', ls', st', σ1))) (K : KKp E D A b bs (mL k) p l e R s m args below meth c QQ ws pc' ls' st' σ1) : W p l e R s m args below meth c H locs cells slots QQ (F0 m pc mls mst) := by
  obtain ⟨hx, hb, hml, hown, hts, hnw, hnm, hA, hro, hfr, hlo⟩ := C
  obtain ⟨hK, hP, hD, hS, hR, hL, hT⟩ := S
  unfold oI2 at h
  split at h
  · rename_i y x r
    unfold nx at h
    cases h
    obtain ⟨r1, rfl, h1⟩ := hT.int
    obtain ⟨r2, rfl, h2⟩ := h1.int
    refine row x y r2 ?_
    exact K H locs ws tys mls _ cells slots XT.rf ⟨hK, hP, hD, hS, hR, hL, ⟨rfl, h2⟩⟩ hcs.1 hcs.2
  · cases h
theorem s_l2 {p : Program} {l : Launch} {e : Env} {R : Room} {s : State} {m : MethodId} {args : Array Value} {below : List Frame} {meth : Method} {c : Code} {QQ : State → Prop} {D : va_G} {A : Nat → Prop} {E : EX0} {k b bs pc pc' : Nat} {ls ls' : LS0} {st st' : List Value} {σ σ1 : SH} {H : Heap} {locs : List Loc} {ws : va_W} {tys : List (ClassId × FieldType)} {mls : Array Slot} {mst : List Value} {cells slots : Nat} (C : FC k p R s m args meth c A E) (S : SS E D A s σ ls st H locs ws tys mls mst (mL k)) (hcs : cells + b = σ.1.length ∧ slots + bs = slz σ.1) (hcap : σ1.1.length ≤ b + R.cells ∧ slz σ1.1 ≤ bs + R.slots) {f : Int64 → Int64 → Int64} {n : Nat} (row : ∀ (x y : Int64) (rest : List Value), W p l e R s m args below meth c H locs cells slots QQ (F0 m n mls (.long (f x y) :: rest)) → W p l e R s m args below meth c H locs cells slots QQ (F0 m pc mls (.long y :: .long x :: rest))) (h : oL2 f n ls st σ = some (.inl (pc', ls', st', σ1))) (K : KKp E D A b bs (mL k) p l e R s m args below meth c QQ ws pc' ls' st' σ1) : W p l e R s m args below meth c H locs cells slots QQ (F0 m pc mls mst) := by
  obtain ⟨hx, hb, hml, hown, hts, hnw, hnm, hA, hro, hfr, hlo⟩ := C
  obtain ⟨hK, hP, hD, hS, hR, hL, hT⟩ := S
  unfold oL2 at h
  split at h
  · rename_i y x r
    unfold nx at h
    cases h
    obtain ⟨r1, rfl, h1⟩ := hT.long
    obtain ⟨r2, rfl, h2⟩ := h1.long
    refine row x y r2 ?_
    exact K H locs ws tys mls _ cells slots XT.rf ⟨hK, hP, hD, hS, hR, hL, ⟨rfl, h2⟩⟩ hcs.1 hcs.2
  · cases h
theorem s_idv {p : Program} {l : Launch} {e : Env} {R : Room} {s : State} {m : MethodId} {args : Array Value} {below : List Frame} {meth : Method} {c : Code} {QQ : State → Prop} {D : va_G} {A : Nat → Prop} {E : EX0} {k b bs pc pc' : Nat} {ls ls' : LS0} {st st' : List Value} {σ σ1 : SH} {H : Heap} {locs : List Loc} {ws : va_W} {tys : List (ClassId × FieldType)} {mls : Array Slot} {mst : List Value} {cells slots : Nat} (C : FC k p R s m args meth c A E) (S : SS E D A s σ ls st H locs ws tys mls mst (mL k)) (hcs : cells + b = σ.1.length ∧ slots + bs = slz σ.1) (hcap : σ1.1.length ≤ b + R.cells ∧ slz σ1.1 ≤ bs + R.slots) {f : Int32 → Int32 → Int32} {n : Nat} (row : ∀ (x y : Int32) (rest : List Value), ¬ y = 0 → W p l e R s m args below meth c H locs cells slots QQ (F0 m n mls (.int (f x y) :: rest)) → W p l e R s m args below meth c H locs cells slots QQ (F0 m pc mls (.int y :: .int x :: rest))) (h : oIDiv f n ls st σ = some (.inl (pc', ls', st', σ1))) (K : KKp E D A b bs (mL k) p l e R s m args below meth c QQ ws pc' ls' st' σ1) : W p l e R s m args below meth c H locs cells slots QQ (F0 m pc mls mst) := by
  obtain ⟨hx, hb, hml, hown, hts, hnw, hnm, hA, hro, hfr, hlo⟩ := C
  obtain ⟨hK, hP, hD, hS, hR, hL, hT⟩ := S
  unfold oIDiv at h
  split at h
  · rename_i y x r
    split at h
    · cases h
    · rename_i hne
      unfold nx at h
      cases h
      obtain ⟨r1, rfl, h1⟩ := hT.int
      obtain ⟨r2, rfl, h2⟩ := h1.int
      refine row x y r2 hne ?_
      exact K H locs ws tys mls _ cells slots XT.rf ⟨hK, hP, hD, hS, hR, hL, ⟨rfl, h2⟩⟩ hcs.1 hcs.2
  · cases h
theorem s_ldv {p : Program} {l : Launch} {e : Env} {R : Room} {s : State} {m : MethodId} {args : Array Value} {below : List Frame} {meth : Method} {c : Code} {QQ : State → Prop} {D : va_G} {A : Nat → Prop} {E : EX0} {k b bs pc pc' : Nat} {ls ls' : LS0} {st st' : List Value} {σ σ1 : SH} {H : Heap} {locs : List Loc} {ws : va_W} {tys : List (ClassId × FieldType)} {mls : Array Slot} {mst : List Value} {cells slots : Nat} (C : FC k p R s m args meth c A E) (S : SS E D A s σ ls st H locs ws tys mls mst (mL k)) (hcs : cells + b = σ.1.length ∧ slots + bs = slz σ.1) (hcap : σ1.1.length ≤ b + R.cells ∧ slz σ1.1 ≤ bs + R.slots) {f : Int64 → Int64 → Int64} {n : Nat} (row : ∀ (x y : Int64) (rest : List Value), ¬ y = 0 → W p l e R s m args below meth c H locs cells slots QQ (F0 m n mls (.long (f x y) :: rest)) → W p l e R s m args below meth c H locs cells slots QQ (F0 m pc mls (.long y :: .long x :: rest))) (h : oLDiv f n ls st σ = some (.inl (pc', ls', st', σ1))) (K : KKp E D A b bs (mL k) p l e R s m args below meth c QQ ws pc' ls' st' σ1) : W p l e R s m args below meth c H locs cells slots QQ (F0 m pc mls mst) := by
  obtain ⟨hx, hb, hml, hown, hts, hnw, hnm, hA, hro, hfr, hlo⟩ := C
  obtain ⟨hK, hP, hD, hS, hR, hL, hT⟩ := S
  unfold oLDiv at h
  split at h
  · rename_i y x r
    split at h
    · cases h
    · rename_i hne
      unfold nx at h
      cases h
      obtain ⟨r1, rfl, h1⟩ := hT.long
      obtain ⟨r2, rfl, h2⟩ := h1.long
      refine row x y r2 hne ?_
      exact K H locs ws tys mls _ cells slots XT.rf ⟨hK, hP, hD, hS, hR, hL, ⟨rfl, h2⟩⟩ hcs.1 hcs.2
  · cases h
theorem s_neg {p : Program} {l : Launch} {e : Env} {R : Room} {s : State} {m : MethodId} {args : Array Value} {below : List Frame} {meth : Method} {c : Code} {QQ : State → Prop} {D : va_G} {A : Nat → Prop} {E : EX0} {k b bs pc pc' : Nat} {ls ls' : LS0} {st st' : List Value} {σ σ1 : SH} {H : Heap} {locs : List Loc} {ws : va_W} {tys : List (ClassId × FieldType)} {mls : Array Slot} {mst : List Value} {cells slots : Nat} (C : FC k p R s m args meth c A E) (S : SS E D A s σ ls st H locs ws tys mls mst (mL k)) (hcs : cells + b = σ.1.length ∧ slots + bs = slz σ.1) (hcap : σ1.1.length ≤ b + R.cells ∧ slz σ1.1 ≤ bs + R.slots) {n : Nat} (row : ∀ (x : Int32) (rest : List Value), W p l e R s m args below meth c H locs cells slots QQ (F0 m n mls (.int (-x) :: rest)) → W p l e R s m args below meth c H locs cells slots QQ (F0 m pc mls (.int x :: rest))) (h : oNeg n ls st σ = some (.inl (pc', ls', st', σ1))) (K : KKp E D A b bs (mL k) p l e R s m args below meth c QQ ws pc' ls' st' σ1) : W p l e R s m args below meth c H locs cells slots QQ (F0 m pc mls mst) := by
  obtain ⟨hx, hb, hml, hown, hts, hnw, hnm, hA, hro, hfr, hlo⟩ := C
  obtain ⟨hK, hP, hD, hS, hR, hL, hT⟩ := S
  unfold oNeg at h
  split at h
  · rename_i x r
    unfold nx at h
    cases h
    obtain ⟨r1, rfl, h1⟩ := hT.int
    refine row x r1 ?_
    exact K H locs ws tys mls _ cells slots XT.rf ⟨hK, hP, hD, hS, hR, hL, ⟨rfl, h1⟩⟩ hcs.1 hcs.2
  · cases h
theorem s_i2l {p : Program} {l : Launch} {e : Env} {R : Room} {s : State} {m : MethodId} {args : Array Value} {below : List Frame} {meth : Method} {c : Code} {QQ : State → Prop} {D : va_G} {A : Nat → Prop} {E : EX0} {k b bs pc pc' : Nat} {ls ls' : LS0} {st st' : List Value} {σ σ1 : SH} {H : Heap} {locs : List Loc} {ws : va_W} {tys : List (ClassId × FieldType)} {mls : Array Slot} {mst : List Value} {cells slots : Nat} (C : FC k p R s m args meth c A E) (S : SS E D A s σ ls st H locs ws tys mls mst (mL k)) (hcs : cells + b = σ.1.length ∧ slots + bs = slz σ.1) (hcap : σ1.1.length ≤ b + R.cells ∧ slz σ1.1 ≤ bs + R.slots) {n : Nat} (row : ∀ (x : Int32) (rest : List Value), W p l e R s m args below meth c H locs cells slots QQ (F0 m n mls (.long (x.toInt64) :: rest)) → W p l e R s m args below meth c H locs cells slots QQ (F0 m pc mls (.int x :: rest))) (h : oI2L n ls st σ = some (.inl (pc', ls', st', σ1))) (K : KKp E D A b bs (mL k) p l e R s m args below meth c QQ ws pc' ls' st' σ1) : W p l e R s m args below meth c H locs cells slots QQ (F0 m pc mls mst) := by
  obtain ⟨hx, hb, hml, hown, hts, hnw, hnm, hA, hro, hfr, hlo⟩ := C
  obtain ⟨hK, hP, hD, hS, hR, hL, hT⟩ := S
  unfold oI2L at h
  split at h
  · rename_i x r
    unfold nx at h
    cases h
    obtain ⟨r1, rfl, h1⟩ := hT.int
    refine row x r1 ?_
    exact K H locs ws tys mls _ cells slots XT.rf ⟨hK, hP, hD, hS, hR, hL, ⟨rfl, h1⟩⟩ hcs.1 hcs.2
  · cases h
theorem s_lcmp {p : Program} {l : Launch} {e : Env} {R : Room} {s : State} {m : MethodId} {args : Array Value} {below : List Frame} {meth : Method} {c : Code} {QQ : State → Prop} {D : va_G} {A : Nat → Prop} {E : EX0} {k b bs pc pc' : Nat} {ls ls' : LS0} {st st' : List Value} {σ σ1 : SH} {H : Heap} {locs : List Loc} {ws : va_W} {tys : List (ClassId × FieldType)} {mls : Array Slot} {mst : List Value} {cells slots : Nat} (C : FC k p R s m args meth c A E) (S : SS E D A s σ ls st H locs ws tys mls mst (mL k)) (hcs : cells + b = σ.1.length ∧ slots + bs = slz σ.1) (hcap : σ1.1.length ≤ b + R.cells ∧ slz σ1.1 ≤ bs + R.slots) {n : Nat} (row : ∀ (x y : Int64) (rest : List Value), W p l e R s m args below meth c H locs cells slots QQ (F0 m n mls (.int (lg_cmp x y) :: rest)) → W p l e R s m args below meth c H locs cells slots QQ (F0 m pc mls (.long y :: .long x :: rest))) (h : oLcmp n ls st σ = some (.inl (pc', ls', st', σ1))) (K : KKp E D A b bs (mL k) p l e R s m args below meth c QQ ws pc' ls' st' σ1) : W p l e R s m args below meth c H locs cells slots QQ (F0 m pc mls mst) := by
  obtain ⟨hx, hb, hml, hown, hts, hnw, hnm, hA, hro, hfr, hlo⟩ := C
  obtain ⟨hK, hP, hD, hS, hR, hL, hT⟩ := S
  unfold oLcmp at h
  split at h
  · rename_i y x r
    unfold nx at h
    cases h
    obtain ⟨r1, rfl, h1⟩ := hT.long
    obtain ⟨r2, rfl, h2⟩ := h1.long
    refine row x y r2 ?_
    exact K H locs ws tys mls _ cells slots XT.rf ⟨hK, hP, hD, hS, hR, hL, ⟨rfl, h2⟩⟩ hcs.1 hcs.2
  · cases h
theorem s_dup {p : Program} {l : Launch} {e : Env} {R : Room} {s : State} {m : MethodId} {args : Array Value} {below : List Frame} {meth : Method} {c : Code} {QQ : State → Prop} {D : va_G} {A : Nat → Prop} {E : EX0} {k b bs pc pc' : Nat} {ls ls' : LS0} {st st' : List Value} {σ σ1 : SH} {H : Heap} {locs : List Loc} {ws : va_W} {tys : List (ClassId × FieldType)} {mls : Array Slot} {mst : List Value} {cells slots : Nat} (C : FC k p R s m args meth c A E) (S : SS E D A s σ ls st H locs ws tys mls mst (mL k)) (hcs : cells + b = σ.1.length ∧ slots + bs = slz σ.1) (hcap : σ1.1.length ≤ b + R.cells ∧ slz σ1.1 ≤ bs + R.slots) {n : Nat} (row : ∀ (x : Value) (rest : List Value), x.category = 1 → W p l e R s m args below meth c H locs cells slots QQ (F0 m n mls (x :: x :: rest)) → W p l e R s m args below meth c H locs cells slots QQ (F0 m pc mls (x :: rest))) (h : oDup n ls st σ = some (.inl (pc', ls', st', σ1))) (K : KKp E D A b bs (mL k) p l e R s m args below meth c QQ ws pc' ls' st' σ1) : W p l e R s m args below meth c H locs cells slots QQ (F0 m pc mls mst) := by
  obtain ⟨hx, hb, hml, hown, hts, hnw, hnm, hA, hro, hfr, hlo⟩ := C
  obtain ⟨hK, hP, hD, hS, hR, hL, hT⟩ := S
  unfold oDup at h
  split at h
  · rename_i x r
    unfold nx at h
    cases h
    obtain ⟨r1, rfl, h1⟩ := hT.int
    refine row _ r1 rfl ?_
    exact K H locs ws tys mls _ cells slots XT.rf ⟨hK, hP, hD, hS, hR, hL, ⟨rfl, rfl, h1⟩⟩ hcs.1 hcs.2
  · rename_i x r
    unfold nx at h
    cases h
    obtain ⟨a, r1, rfl, h3, h1⟩ := hT.ref
    refine row _ r1 rfl ?_
    exact K H locs ws tys mls _ cells slots XT.rf ⟨hK, hP, hD, hS, hR, hL, ⟨h3, h3, h1⟩⟩ hcs.1 hcs.2
  · cases h
theorem s_dup2 {p : Program} {l : Launch} {e : Env} {R : Room} {s : State} {m : MethodId} {args : Array Value} {below : List Frame} {meth : Method} {c : Code} {QQ : State → Prop} {D : va_G} {A : Nat → Prop} {E : EX0} {k b bs pc pc' : Nat} {ls ls' : LS0} {st st' : List Value} {σ σ1 : SH} {H : Heap} {locs : List Loc} {ws : va_W} {tys : List (ClassId × FieldType)} {mls : Array Slot} {mst : List Value} {cells slots : Nat} (C : FC k p R s m args meth c A E) (S : SS E D A s σ ls st H locs ws tys mls mst (mL k)) (hcs : cells + b = σ.1.length ∧ slots + bs = slz σ.1) (hcap : σ1.1.length ≤ b + R.cells ∧ slz σ1.1 ≤ bs + R.slots) {n : Nat} (row : ∀ (x y : Value) (rest : List Value), x.category = 1 → y.category = 1 → W p l e R s m args below meth c H locs cells slots QQ (F0 m n mls (x :: y :: x :: y :: rest)) → W p l e R s m args below meth c H locs cells slots QQ (F0 m pc mls (x :: y :: rest))) (h : oDup2 n ls st σ = some (.inl (pc', ls', st', σ1))) (K : KKp E D A b bs (mL k) p l e R s m args below meth c QQ ws pc' ls' st' σ1) : W p l e R s m args below meth c H locs cells slots QQ (F0 m pc mls mst) := by
  obtain ⟨hx, hb, hml, hown, hts, hnw, hnm, hA, hro, hfr, hlo⟩ := C
  obtain ⟨hK, hP, hD, hS, hR, hL, hT⟩ := S
  unfold oDup2 at h
  split at h
  · rename_i x y r
    unfold nx at h
    cases h
    obtain ⟨r1, rfl, h1⟩ := hT.int
    obtain ⟨a, r2, rfl, h3, h2⟩ := h1.ref
    refine row _ _ r2 rfl rfl ?_
    exact K H locs ws tys mls _ cells slots XT.rf ⟨hK, hP, hD, hS, hR, hL, ⟨rfl, h3, rfl, h3, h2⟩⟩ hcs.1 hcs.2
  · cases h
theorem s_pop {p : Program} {l : Launch} {e : Env} {R : Room} {s : State} {m : MethodId} {args : Array Value} {below : List Frame} {meth : Method} {c : Code} {QQ : State → Prop} {D : va_G} {A : Nat → Prop} {E : EX0} {k b bs pc pc' : Nat} {ls ls' : LS0} {st st' : List Value} {σ σ1 : SH} {H : Heap} {locs : List Loc} {ws : va_W} {tys : List (ClassId × FieldType)} {mls : Array Slot} {mst : List Value} {cells slots : Nat} (C : FC k p R s m args meth c A E) (S : SS E D A s σ ls st H locs ws tys mls mst (mL k)) (hcs : cells + b = σ.1.length ∧ slots + bs = slz σ.1) (hcap : σ1.1.length ≤ b + R.cells ∧ slz σ1.1 ≤ bs + R.slots) {n : Nat} (row : ∀ (x : Value) (rest : List Value), x.category = 1 → W p l e R s m args below meth c H locs cells slots QQ (F0 m n mls rest) → W p l e R s m args below meth c H locs cells slots QQ (F0 m pc mls (x :: rest))) (h : oPop n ls st σ = some (.inl (pc', ls', st', σ1))) (K : KKp E D A b bs (mL k) p l e R s m args below meth c QQ ws pc' ls' st' σ1) : W p l e R s m args below meth c H locs cells slots QQ (F0 m pc mls mst) := by
  obtain ⟨hx, hb, hml, hown, hts, hnw, hnm, hA, hro, hfr, hlo⟩ := C
  obtain ⟨hK, hP, hD, hS, hR, hL, hT⟩ := S
  unfold oPop at h
  split at h
  · unfold nx at h
    cases h
    obtain ⟨r1, rfl, h1⟩ := hT.int
    refine row _ r1 rfl ?_
    exact K H locs ws tys mls _ cells slots XT.rf ⟨hK, hP, hD, hS, hR, hL, h1⟩ hcs.1 hcs.2
  · cases h
theorem s_pop2 {p : Program} {l : Launch} {e : Env} {R : Room} {s : State} {m : MethodId} {args : Array Value} {below : List Frame} {meth : Method} {c : Code} {QQ : State → Prop} {D : va_G} {A : Nat → Prop} {E : EX0} {k b bs pc pc' : Nat} {ls ls' : LS0} {st st' : List Value} {σ σ1 : SH} {H : Heap} {locs : List Loc} {ws : va_W} {tys : List (ClassId × FieldType)} {mls : Array Slot} {mst : List Value} {cells slots : Nat} (C : FC k p R s m args meth c A E) (S : SS E D A s σ ls st H locs ws tys mls mst (mL k)) (hcs : cells + b = σ.1.length ∧ slots + bs = slz σ.1) (hcap : σ1.1.length ≤ b + R.cells ∧ slz σ1.1 ≤ bs + R.slots) {n : Nat} (row : ∀ (x : Value) (rest : List Value), x.category = 2 → W p l e R s m args below meth c H locs cells slots QQ (F0 m n mls rest) → W p l e R s m args below meth c H locs cells slots QQ (F0 m pc mls (x :: rest))) (h : oPop2 n ls st σ = some (.inl (pc', ls', st', σ1))) (K : KKp E D A b bs (mL k) p l e R s m args below meth c QQ ws pc' ls' st' σ1) : W p l e R s m args below meth c H locs cells slots QQ (F0 m pc mls mst) := by
  obtain ⟨hx, hb, hml, hown, hts, hnw, hnm, hA, hro, hfr, hlo⟩ := C
  obtain ⟨hK, hP, hD, hS, hR, hL, hT⟩ := S
  unfold oPop2 at h
  split at h
  · unfold nx at h
    cases h
    obtain ⟨r1, rfl, h1⟩ := hT.long
    refine row _ r1 rfl ?_
    exact K H locs ws tys mls _ cells slots XT.rf ⟨hK, hP, hD, hS, hR, hL, h1⟩ hcs.1 hcs.2
  · cases h
theorem s_if_eq {p : Program} {l : Launch} {e : Env} {R : Room} {s : State} {m : MethodId} {args : Array Value} {below : List Frame} {meth : Method} {c : Code} {QQ : State → Prop} {D : va_G} {A : Nat → Prop} {E : EX0} {k b bs pc pc' : Nat} {ls ls' : LS0} {st st' : List Value} {σ σ1 : SH} {H : Heap} {locs : List Loc} {ws : va_W} {tys : List (ClassId × FieldType)} {mls : Array Slot} {mst : List Value} {cells slots : Nat} (C : FC k p R s m args meth c A E) (S : SS E D A s σ ls st H locs ws tys mls mst (mL k)) (hcs : cells + b = σ.1.length ∧ slots + bs = slz σ.1) (hcap : σ1.1.length ≤ b + R.cells ∧ slz σ1.1 ≤ bs + R.slots) {off : Int} {t : Nat} (hd : decode (mB k) pc = .ok (.ifCond .eq off, 3)) (ht : (pc : Int) + off = (t : Int)) (h : oIf .eq t (pc + 3) ls st σ = some (.inl (pc', ls', st', σ1))) (K : KKp E D A b bs (mL k) p l e R s m args below meth c QQ ws pc' ls' st' σ1) : W p l e R s m args below meth c H locs cells slots QQ (F0 m pc mls mst) := by
  obtain ⟨hx, hb, hml, hown, hts, hnw, hnm, hA, hro, hfr, hlo⟩ := C
  obtain ⟨hK, hP, hD, hS, hR, hL, hT⟩ := S
  match st, h, hT with
  | .int x :: r, h, hT =>
    replace h : (if x = 0 then nx t ls r σ else nx (pc + 3) ls r σ) = some (.inl (pc', ls', st', σ1)) := h
    obtain ⟨r1, rfl, h1⟩ := SR.int hT
    by_cases hc : x = 0
    · rw [if_pos hc] at h
      unfold nx at h
      cases h
      exact lv_if_eq hx hb hd ht (fun _ => K H locs ws tys mls _ cells slots XT.rf ⟨hK, hP, hD, hS, hR, hL, h1⟩ hcs.1 hcs.2) (fun q => absurd hc q)
    · rw [if_neg hc] at h
      unfold nx at h
      cases h
      exact lv_if_eq hx hb hd ht (fun q => absurd q hc) (fun _ => K H locs ws tys mls _ cells slots XT.rf ⟨hK, hP, hD, hS, hR, hL, h1⟩ hcs.1 hcs.2)
  | [], h, _ => cases h
  | .long _ :: _, h, _ => cases h
  | .float _ :: _, h, _ => cases h
  | .double _ :: _, h, _ => cases h
  | .null :: _, h, _ => cases h
  | .ref _ :: _, h, _ => cases h
  | .retAddr _ :: _, h, _ => cases h
theorem s_if_ne {p : Program} {l : Launch} {e : Env} {R : Room} {s : State} {m : MethodId} {args : Array Value} {below : List Frame} {meth : Method} {c : Code} {QQ : State → Prop} {D : va_G} {A : Nat → Prop} {E : EX0} {k b bs pc pc' : Nat} {ls ls' : LS0} {st st' : List Value} {σ σ1 : SH} {H : Heap} {locs : List Loc} {ws : va_W} {tys : List (ClassId × FieldType)} {mls : Array Slot} {mst : List Value} {cells slots : Nat} (C : FC k p R s m args meth c A E) (S : SS E D A s σ ls st H locs ws tys mls mst (mL k)) (hcs : cells + b = σ.1.length ∧ slots + bs = slz σ.1) (hcap : σ1.1.length ≤ b + R.cells ∧ slz σ1.1 ≤ bs + R.slots) {off : Int} {t : Nat} (hd : decode (mB k) pc = .ok (.ifCond .ne off, 3)) (ht : (pc : Int) + off = (t : Int)) (h : oIf .ne t (pc + 3) ls st σ = some (.inl (pc', ls', st', σ1))) (K : KKp E D A b bs (mL k) p l e R s m args below meth c QQ ws pc' ls' st' σ1) : W p l e R s m args below meth c H locs cells slots QQ (F0 m pc mls mst) := by
  obtain ⟨hx, hb, hml, hown, hts, hnw, hnm, hA, hro, hfr, hlo⟩ := C
  obtain ⟨hK, hP, hD, hS, hR, hL, hT⟩ := S
  match st, h, hT with
  | .int x :: r, h, hT =>
    replace h : (if x = 0 then nx (pc + 3) ls r σ else nx t ls r σ) = some (.inl (pc', ls', st', σ1)) := h
    obtain ⟨r1, rfl, h1⟩ := SR.int hT
    by_cases hc : x = 0
    · rw [if_pos hc] at h
      unfold nx at h
      cases h
      exact lv_if_ne hx hb hd ht (fun q => absurd hc q) (fun _ => K H locs ws tys mls _ cells slots XT.rf ⟨hK, hP, hD, hS, hR, hL, h1⟩ hcs.1 hcs.2)
    · rw [if_neg hc] at h
      unfold nx at h
      cases h
      exact lv_if_ne hx hb hd ht (fun _ => K H locs ws tys mls _ cells slots XT.rf ⟨hK, hP, hD, hS, hR, hL, h1⟩ hcs.1 hcs.2) (fun q => absurd q hc)
  | [], h, _ => cases h
  | .long _ :: _, h, _ => cases h
  | .float _ :: _, h, _ => cases h
  | .double _ :: _, h, _ => cases h
  | .null :: _, h, _ => cases h
  | .ref _ :: _, h, _ => cases h
  | .retAddr _ :: _, h, _ => cases h
theorem s_if_lt {p : Program} {l : Launch} {e : Env} {R : Room} {s : State} {m : MethodId} {args : Array Value} {below : List Frame} {meth : Method} {c : Code} {QQ : State → Prop} {D : va_G} {A : Nat → Prop} {E : EX0} {k b bs pc pc' : Nat} {ls ls' : LS0} {st st' : List Value} {σ σ1 : SH} {H : Heap} {locs : List Loc} {ws : va_W} {tys : List (ClassId × FieldType)} {mls : Array Slot} {mst : List Value} {cells slots : Nat} (C : FC k p R s m args meth c A E) (S : SS E D A s σ ls st H locs ws tys mls mst (mL k)) (hcs : cells + b = σ.1.length ∧ slots + bs = slz σ.1) (hcap : σ1.1.length ≤ b + R.cells ∧ slz σ1.1 ≤ bs + R.slots) {off : Int} {t : Nat} (hd : decode (mB k) pc = .ok (.ifCond .lt off, 3)) (ht : (pc : Int) + off = (t : Int)) (h : oIf .lt t (pc + 3) ls st σ = some (.inl (pc', ls', st', σ1))) (K : KKp E D A b bs (mL k) p l e R s m args below meth c QQ ws pc' ls' st' σ1) : W p l e R s m args below meth c H locs cells slots QQ (F0 m pc mls mst) := by
  obtain ⟨hx, hb, hml, hown, hts, hnw, hnm, hA, hro, hfr, hlo⟩ := C
  obtain ⟨hK, hP, hD, hS, hR, hL, hT⟩ := S
  match st, h, hT with
  | .int x :: r, h, hT =>
    replace h : (if x < 0 then nx t ls r σ else nx (pc + 3) ls r σ) = some (.inl (pc', ls', st', σ1)) := h
    obtain ⟨r1, rfl, h1⟩ := SR.int hT
    by_cases hc : x < 0
    · rw [if_pos hc] at h
      unfold nx at h
      cases h
      exact lv_if_lt hx hb hd ht (fun _ => K H locs ws tys mls _ cells slots XT.rf ⟨hK, hP, hD, hS, hR, hL, h1⟩ hcs.1 hcs.2) (fun q => absurd hc q)
    · rw [if_neg hc] at h
      unfold nx at h
      cases h
      exact lv_if_lt hx hb hd ht (fun q => absurd q hc) (fun _ => K H locs ws tys mls _ cells slots XT.rf ⟨hK, hP, hD, hS, hR, hL, h1⟩ hcs.1 hcs.2)
  | [], h, _ => cases h
  | .long _ :: _, h, _ => cases h
  | .float _ :: _, h, _ => cases h
  | .double _ :: _, h, _ => cases h
  | .null :: _, h, _ => cases h
  | .ref _ :: _, h, _ => cases h
  | .retAddr _ :: _, h, _ => cases h
theorem s_if_ge {p : Program} {l : Launch} {e : Env} {R : Room} {s : State} {m : MethodId} {args : Array Value} {below : List Frame} {meth : Method} {c : Code} {QQ : State → Prop} {D : va_G} {A : Nat → Prop} {E : EX0} {k b bs pc pc' : Nat} {ls ls' : LS0} {st st' : List Value} {σ σ1 : SH} {H : Heap} {locs : List Loc} {ws : va_W} {tys : List (ClassId × FieldType)} {mls : Array Slot} {mst : List Value} {cells slots : Nat} (C : FC k p R s m args meth c A E) (S : SS E D A s σ ls st H locs ws tys mls mst (mL k)) (hcs : cells + b = σ.1.length ∧ slots + bs = slz σ.1) (hcap : σ1.1.length ≤ b + R.cells ∧ slz σ1.1 ≤ bs + R.slots) {off : Int} {t : Nat} (hd : decode (mB k) pc = .ok (.ifCond .ge off, 3)) (ht : (pc : Int) + off = (t : Int)) (h : oIf .ge t (pc + 3) ls st σ = some (.inl (pc', ls', st', σ1))) (K : KKp E D A b bs (mL k) p l e R s m args below meth c QQ ws pc' ls' st' σ1) : W p l e R s m args below meth c H locs cells slots QQ (F0 m pc mls mst) := by
  obtain ⟨hx, hb, hml, hown, hts, hnw, hnm, hA, hro, hfr, hlo⟩ := C
  obtain ⟨hK, hP, hD, hS, hR, hL, hT⟩ := S
  match st, h, hT with
  | .int x :: r, h, hT =>
    replace h : (if 0 ≤ x then nx t ls r σ else nx (pc + 3) ls r σ) = some (.inl (pc', ls', st', σ1)) := h
    obtain ⟨r1, rfl, h1⟩ := SR.int hT
    by_cases hc : 0 ≤ x
    · rw [if_pos hc] at h
      unfold nx at h
      cases h
      exact lv_if_ge hx hb hd ht (fun _ => K H locs ws tys mls _ cells slots XT.rf ⟨hK, hP, hD, hS, hR, hL, h1⟩ hcs.1 hcs.2) (fun q => absurd hc q)
    · rw [if_neg hc] at h
      unfold nx at h
      cases h
      exact lv_if_ge hx hb hd ht (fun q => absurd q hc) (fun _ => K H locs ws tys mls _ cells slots XT.rf ⟨hK, hP, hD, hS, hR, hL, h1⟩ hcs.1 hcs.2)
  | [], h, _ => cases h
  | .long _ :: _, h, _ => cases h
  | .float _ :: _, h, _ => cases h
  | .double _ :: _, h, _ => cases h
  | .null :: _, h, _ => cases h
  | .ref _ :: _, h, _ => cases h
  | .retAddr _ :: _, h, _ => cases h
theorem s_if_gt {p : Program} {l : Launch} {e : Env} {R : Room} {s : State} {m : MethodId} {args : Array Value} {below : List Frame} {meth : Method} {c : Code} {QQ : State → Prop} {D : va_G} {A : Nat → Prop} {E : EX0} {k b bs pc pc' : Nat} {ls ls' : LS0} {st st' : List Value} {σ σ1 : SH} {H : Heap} {locs : List Loc} {ws : va_W} {tys : List (ClassId × FieldType)} {mls : Array Slot} {mst : List Value} {cells slots : Nat} (C : FC k p R s m args meth c A E) (S : SS E D A s σ ls st H locs ws tys mls mst (mL k)) (hcs : cells + b = σ.1.length ∧ slots + bs = slz σ.1) (hcap : σ1.1.length ≤ b + R.cells ∧ slz σ1.1 ≤ bs + R.slots) {off : Int} {t : Nat} (hd : decode (mB k) pc = .ok (.ifCond .gt off, 3)) (ht : (pc : Int) + off = (t : Int)) (h : oIf .gt t (pc + 3) ls st σ = some (.inl (pc', ls', st', σ1))) (K : KKp E D A b bs (mL k) p l e R s m args below meth c QQ ws pc' ls' st' σ1) : W p l e R s m args below meth c H locs cells slots QQ (F0 m pc mls mst) := by
  obtain ⟨hx, hb, hml, hown, hts, hnw, hnm, hA, hro, hfr, hlo⟩ := C
  obtain ⟨hK, hP, hD, hS, hR, hL, hT⟩ := S
  match st, h, hT with
  | .int x :: r, h, hT =>
    replace h : (if 0 < x then nx t ls r σ else nx (pc + 3) ls r σ) = some (.inl (pc', ls', st', σ1)) := h
    obtain ⟨r1, rfl, h1⟩ := SR.int hT
    by_cases hc : 0 < x
    · rw [if_pos hc] at h
      unfold nx at h
      cases h
      exact lv_if_gt hx hb hd ht (fun _ => K H locs ws tys mls _ cells slots XT.rf ⟨hK, hP, hD, hS, hR, hL, h1⟩ hcs.1 hcs.2) (fun q => absurd hc q)
    · rw [if_neg hc] at h
      unfold nx at h
      cases h
      exact lv_if_gt hx hb hd ht (fun q => absurd q hc) (fun _ => K H locs ws tys mls _ cells slots XT.rf ⟨hK, hP, hD, hS, hR, hL, h1⟩ hcs.1 hcs.2)
  | [], h, _ => cases h
  | .long _ :: _, h, _ => cases h
  | .float _ :: _, h, _ => cases h
  | .double _ :: _, h, _ => cases h
  | .null :: _, h, _ => cases h
  | .ref _ :: _, h, _ => cases h
  | .retAddr _ :: _, h, _ => cases h
theorem s_if_le {p : Program} {l : Launch} {e : Env} {R : Room} {s : State} {m : MethodId} {args : Array Value} {below : List Frame} {meth : Method} {c : Code} {QQ : State → Prop} {D : va_G} {A : Nat → Prop} {E : EX0} {k b bs pc pc' : Nat} {ls ls' : LS0} {st st' : List Value} {σ σ1 : SH} {H : Heap} {locs : List Loc} {ws : va_W} {tys : List (ClassId × FieldType)} {mls : Array Slot} {mst : List Value} {cells slots : Nat} (C : FC k p R s m args meth c A E) (S : SS E D A s σ ls st H locs ws tys mls mst (mL k)) (hcs : cells + b = σ.1.length ∧ slots + bs = slz σ.1) (hcap : σ1.1.length ≤ b + R.cells ∧ slz σ1.1 ≤ bs + R.slots) {off : Int} {t : Nat} (hd : decode (mB k) pc = .ok (.ifCond .le off, 3)) (ht : (pc : Int) + off = (t : Int)) (h : oIf .le t (pc + 3) ls st σ = some (.inl (pc', ls', st', σ1))) (K : KKp E D A b bs (mL k) p l e R s m args below meth c QQ ws pc' ls' st' σ1) : W p l e R s m args below meth c H locs cells slots QQ (F0 m pc mls mst) := by
  obtain ⟨hx, hb, hml, hown, hts, hnw, hnm, hA, hro, hfr, hlo⟩ := C
  obtain ⟨hK, hP, hD, hS, hR, hL, hT⟩ := S
  match st, h, hT with
  | .int x :: r, h, hT =>
    replace h : (if x ≤ 0 then nx t ls r σ else nx (pc + 3) ls r σ) = some (.inl (pc', ls', st', σ1)) := h
    obtain ⟨r1, rfl, h1⟩ := SR.int hT
    by_cases hc : x ≤ 0
    · rw [if_pos hc] at h
      unfold nx at h
      cases h
      exact lv_if_le hx hb hd ht (fun _ => K H locs ws tys mls _ cells slots XT.rf ⟨hK, hP, hD, hS, hR, hL, h1⟩ hcs.1 hcs.2) (fun q => absurd hc q)
    · rw [if_neg hc] at h
      unfold nx at h
      cases h
      exact lv_if_le hx hb hd ht (fun q => absurd q hc) (fun _ => K H locs ws tys mls _ cells slots XT.rf ⟨hK, hP, hD, hS, hR, hL, h1⟩ hcs.1 hcs.2)
  | [], h, _ => cases h
  | .long _ :: _, h, _ => cases h
  | .float _ :: _, h, _ => cases h
  | .double _ :: _, h, _ => cases h
  | .null :: _, h, _ => cases h
  | .ref _ :: _, h, _ => cases h
  | .retAddr _ :: _, h, _ => cases h
theorem s_ic_eq {p : Program} {l : Launch} {e : Env} {R : Room} {s : State} {m : MethodId} {args : Array Value} {below : List Frame} {meth : Method} {c : Code} {QQ : State → Prop} {D : va_G} {A : Nat → Prop} {E : EX0} {k b bs pc pc' : Nat} {ls ls' : LS0} {st st' : List Value} {σ σ1 : SH} {H : Heap} {locs : List Loc} {ws : va_W} {tys : List (ClassId × FieldType)} {mls : Array Slot} {mst : List Value} {cells slots : Nat} (C : FC k p R s m args meth c A E) (S : SS E D A s σ ls st H locs ws tys mls mst (mL k)) (hcs : cells + b = σ.1.length ∧ slots + bs = slz σ.1) (hcap : σ1.1.length ≤ b + R.cells ∧ slz σ1.1 ≤ bs + R.slots) {off : Int} {t : Nat} (hd : decode (mB k) pc = .ok (.if_icmp .eq off, 3)) (ht : (pc : Int) + off = (t : Int)) (h : oIfI .eq t (pc + 3) ls st σ = some (.inl (pc', ls', st', σ1))) (K : KKp E D A b bs (mL k) p l e R s m args below meth c QQ ws pc' ls' st' σ1) : W p l e R s m args below meth c H locs cells slots QQ (F0 m pc mls mst) := by
  obtain ⟨hx, hb, hml, hown, hts, hnw, hnm, hA, hro, hfr, hlo⟩ := C
  obtain ⟨hK, hP, hD, hS, hR, hL, hT⟩ := S
  have hst : ∃ x y r, st = .int y :: .int x :: r := by
    unfold oIfI at h
    split at h
    all_goals first | exact ⟨_, _, _, rfl⟩ | cases h
  obtain ⟨x, y, r, rfl⟩ := hst
  replace h : (if x = y then nx t ls r σ else nx (pc + 3) ls r σ) = some (.inl (pc', ls', st', σ1)) := h
  obtain ⟨r1, rfl, h1⟩ := SR.int hT
  obtain ⟨r2, rfl, h2⟩ := SR.int h1
  by_cases hc : x = y
  · rw [if_pos hc] at h
    unfold nx at h
    cases h
    exact lv_icmp_eq hx hb hd ht (fun _ => K H locs ws tys mls _ cells slots XT.rf ⟨hK, hP, hD, hS, hR, hL, h2⟩ hcs.1 hcs.2) (fun q => absurd hc q)
  · rw [if_neg hc] at h
    unfold nx at h
    cases h
    exact lv_icmp_eq hx hb hd ht (fun q => absurd q hc) (fun _ => K H locs ws tys mls _ cells slots XT.rf ⟨hK, hP, hD, hS, hR, hL, h2⟩ hcs.1 hcs.2)
theorem s_ic_ne {p : Program} {l : Launch} {e : Env} {R : Room} {s : State} {m : MethodId} {args : Array Value} {below : List Frame} {meth : Method} {c : Code} {QQ : State → Prop} {D : va_G} {A : Nat → Prop} {E : EX0} {k b bs pc pc' : Nat} {ls ls' : LS0} {st st' : List Value} {σ σ1 : SH} {H : Heap} {locs : List Loc} {ws : va_W} {tys : List (ClassId × FieldType)} {mls : Array Slot} {mst : List Value} {cells slots : Nat} (C : FC k p R s m args meth c A E) (S : SS E D A s σ ls st H locs ws tys mls mst (mL k)) (hcs : cells + b = σ.1.length ∧ slots + bs = slz σ.1) (hcap : σ1.1.length ≤ b + R.cells ∧ slz σ1.1 ≤ bs + R.slots) {off : Int} {t : Nat} (hd : decode (mB k) pc = .ok (.if_icmp .ne off, 3)) (ht : (pc : Int) + off = (t : Int)) (h : oIfI .ne t (pc + 3) ls st σ = some (.inl (pc', ls', st', σ1))) (K : KKp E D A b bs (mL k) p l e R s m args below meth c QQ ws pc' ls' st' σ1) : W p l e R s m args below meth c H locs cells slots QQ (F0 m pc mls mst) := by
  obtain ⟨hx, hb, hml, hown, hts, hnw, hnm, hA, hro, hfr, hlo⟩ := C
  obtain ⟨hK, hP, hD, hS, hR, hL, hT⟩ := S
  have hst : ∃ x y r, st = .int y :: .int x :: r := by
    unfold oIfI at h
    split at h
    all_goals first | exact ⟨_, _, _, rfl⟩ | cases h
  obtain ⟨x, y, r, rfl⟩ := hst
  replace h : (if x = y then nx (pc + 3) ls r σ else nx t ls r σ) = some (.inl (pc', ls', st', σ1)) := h
  obtain ⟨r1, rfl, h1⟩ := SR.int hT
  obtain ⟨r2, rfl, h2⟩ := SR.int h1
  by_cases hc : x = y
  · rw [if_pos hc] at h
    unfold nx at h
    cases h
    exact lv_icmp_ne hx hb hd ht (fun q => absurd hc q) (fun _ => K H locs ws tys mls _ cells slots XT.rf ⟨hK, hP, hD, hS, hR, hL, h2⟩ hcs.1 hcs.2)
  · rw [if_neg hc] at h
    unfold nx at h
    cases h
    exact lv_icmp_ne hx hb hd ht (fun _ => K H locs ws tys mls _ cells slots XT.rf ⟨hK, hP, hD, hS, hR, hL, h2⟩ hcs.1 hcs.2) (fun q => absurd q hc)
theorem s_ic_lt {p : Program} {l : Launch} {e : Env} {R : Room} {s : State} {m : MethodId} {args : Array Value} {below : List Frame} {meth : Method} {c : Code} {QQ : State → Prop} {D : va_G} {A : Nat → Prop} {E : EX0} {k b bs pc pc' : Nat} {ls ls' : LS0} {st st' : List Value} {σ σ1 : SH} {H : Heap} {locs : List Loc} {ws : va_W} {tys : List (ClassId × FieldType)} {mls : Array Slot} {mst : List Value} {cells slots : Nat} (C : FC k p R s m args meth c A E) (S : SS E D A s σ ls st H locs ws tys mls mst (mL k)) (hcs : cells + b = σ.1.length ∧ slots + bs = slz σ.1) (hcap : σ1.1.length ≤ b + R.cells ∧ slz σ1.1 ≤ bs + R.slots) {off : Int} {t : Nat} (hd : decode (mB k) pc = .ok (.if_icmp .lt off, 3)) (ht : (pc : Int) + off = (t : Int)) (h : oIfI .lt t (pc + 3) ls st σ = some (.inl (pc', ls', st', σ1))) (K : KKp E D A b bs (mL k) p l e R s m args below meth c QQ ws pc' ls' st' σ1) : W p l e R s m args below meth c H locs cells slots QQ (F0 m pc mls mst) := by
  obtain ⟨hx, hb, hml, hown, hts, hnw, hnm, hA, hro, hfr, hlo⟩ := C
  obtain ⟨hK, hP, hD, hS, hR, hL, hT⟩ := S
  have hst : ∃ x y r, st = .int y :: .int x :: r := by
    unfold oIfI at h
    split at h
    all_goals first | exact ⟨_, _, _, rfl⟩ | cases h
  obtain ⟨x, y, r, rfl⟩ := hst
  replace h : (if x < y then nx t ls r σ else nx (pc + 3) ls r σ) = some (.inl (pc', ls', st', σ1)) := h
  obtain ⟨r1, rfl, h1⟩ := SR.int hT
  obtain ⟨r2, rfl, h2⟩ := SR.int h1
  by_cases hc : x < y
  · rw [if_pos hc] at h
    unfold nx at h
    cases h
    exact lv_icmp_lt hx hb hd ht (fun _ => K H locs ws tys mls _ cells slots XT.rf ⟨hK, hP, hD, hS, hR, hL, h2⟩ hcs.1 hcs.2) (fun q => absurd hc q)
  · rw [if_neg hc] at h
    unfold nx at h
    cases h
    exact lv_icmp_lt hx hb hd ht (fun q => absurd q hc) (fun _ => K H locs ws tys mls _ cells slots XT.rf ⟨hK, hP, hD, hS, hR, hL, h2⟩ hcs.1 hcs.2)
theorem s_ic_ge {p : Program} {l : Launch} {e : Env} {R : Room} {s : State} {m : MethodId} {args : Array Value} {below : List Frame} {meth : Method} {c : Code} {QQ : State → Prop} {D : va_G} {A : Nat → Prop} {E : EX0} {k b bs pc pc' : Nat} {ls ls' : LS0} {st st' : List Value} {σ σ1 : SH} {H : Heap} {locs : List Loc} {ws : va_W} {tys : List (ClassId × FieldType)} {mls : Array Slot} {mst : List Value} {cells slots : Nat} (C : FC k p R s m args meth c A E) (S : SS E D A s σ ls st H locs ws tys mls mst (mL k)) (hcs : cells + b = σ.1.length ∧ slots + bs = slz σ.1) (hcap : σ1.1.length ≤ b + R.cells ∧ slz σ1.1 ≤ bs + R.slots) {off : Int} {t : Nat} (hd : decode (mB k) pc = .ok (.if_icmp .ge off, 3)) (ht : (pc : Int) + off = (t : Int)) (h : oIfI .ge t (pc + 3) ls st σ = some (.inl (pc', ls', st', σ1))) (K : KKp E D A b bs (mL k) p l e R s m args below meth c QQ ws pc' ls' st' σ1) : W p l e R s m args below meth c H locs cells slots QQ (F0 m pc mls mst) := by
  obtain ⟨hx, hb, hml, hown, hts, hnw, hnm, hA, hro, hfr, hlo⟩ := C
  obtain ⟨hK, hP, hD, hS, hR, hL, hT⟩ := S
  have hst : ∃ x y r, st = .int y :: .int x :: r := by
    unfold oIfI at h
    split at h
    all_goals first | exact ⟨_, _, _, rfl⟩ | cases h
  obtain ⟨x, y, r, rfl⟩ := hst
  replace h : (if y ≤ x then nx t ls r σ else nx (pc + 3) ls r σ) = some (.inl (pc', ls', st', σ1)) := h
  obtain ⟨r1, rfl, h1⟩ := SR.int hT
  obtain ⟨r2, rfl, h2⟩ := SR.int h1
  by_cases hc : y ≤ x
  · rw [if_pos hc] at h
    unfold nx at h
    cases h
    exact lv_icmp_ge hx hb hd ht (fun _ => K H locs ws tys mls _ cells slots XT.rf ⟨hK, hP, hD, hS, hR, hL, h2⟩ hcs.1 hcs.2) (fun q => absurd hc q)
  · rw [if_neg hc] at h
    unfold nx at h
    cases h
    exact lv_icmp_ge hx hb hd ht (fun q => absurd q hc) (fun _ => K H locs ws tys mls _ cells slots XT.rf ⟨hK, hP, hD, hS, hR, hL, h2⟩ hcs.1 hcs.2)
theorem s_ic_gt {p : Program} {l : Launch} {e : Env} {R : Room} {s : State} {m : MethodId} {args : Array Value} {below : List Frame} {meth : Method} {c : Code} {QQ : State → Prop} {D : va_G} {A : Nat → Prop} {E : EX0} {k b bs pc pc' : Nat} {ls ls' : LS0} {st st' : List Value} {σ σ1 : SH} {H : Heap} {locs : List Loc} {ws : va_W} {tys : List (ClassId × FieldType)} {mls : Array Slot} {mst : List Value} {cells slots : Nat} (C : FC k p R s m args meth c A E) (S : SS E D A s σ ls st H locs ws tys mls mst (mL k)) (hcs : cells + b = σ.1.length ∧ slots + bs = slz σ.1) (hcap : σ1.1.length ≤ b + R.cells ∧ slz σ1.1 ≤ bs + R.slots) {off : Int} {t : Nat} (hd : decode (mB k) pc = .ok (.if_icmp .gt off, 3)) (ht : (pc : Int) + off = (t : Int)) (h : oIfI .gt t (pc + 3) ls st σ = some (.inl (pc', ls', st', σ1))) (K : KKp E D A b bs (mL k) p l e R s m args below meth c QQ ws pc' ls' st' σ1) : W p l e R s m args below meth c H locs cells slots QQ (F0 m pc mls mst) := by
  obtain ⟨hx, hb, hml, hown, hts, hnw, hnm, hA, hro, hfr, hlo⟩ := C
  obtain ⟨hK, hP, hD, hS, hR, hL, hT⟩ := S
  have hst : ∃ x y r, st = .int y :: .int x :: r := by
    unfold oIfI at h
    split at h
    all_goals first | exact ⟨_, _, _, rfl⟩ | cases h
  obtain ⟨x, y, r, rfl⟩ := hst
  replace h : (if y < x then nx t ls r σ else nx (pc + 3) ls r σ) = some (.inl (pc', ls', st', σ1)) := h
  obtain ⟨r1, rfl, h1⟩ := SR.int hT
  obtain ⟨r2, rfl, h2⟩ := SR.int h1
  by_cases hc : y < x
  · rw [if_pos hc] at h
    unfold nx at h
    cases h
    exact lv_icmp_gt hx hb hd ht (fun _ => K H locs ws tys mls _ cells slots XT.rf ⟨hK, hP, hD, hS, hR, hL, h2⟩ hcs.1 hcs.2) (fun q => absurd hc q)
  · rw [if_neg hc] at h
    unfold nx at h
    cases h
    exact lv_icmp_gt hx hb hd ht (fun q => absurd q hc) (fun _ => K H locs ws tys mls _ cells slots XT.rf ⟨hK, hP, hD, hS, hR, hL, h2⟩ hcs.1 hcs.2)
theorem s_ic_le {p : Program} {l : Launch} {e : Env} {R : Room} {s : State} {m : MethodId} {args : Array Value} {below : List Frame} {meth : Method} {c : Code} {QQ : State → Prop} {D : va_G} {A : Nat → Prop} {E : EX0} {k b bs pc pc' : Nat} {ls ls' : LS0} {st st' : List Value} {σ σ1 : SH} {H : Heap} {locs : List Loc} {ws : va_W} {tys : List (ClassId × FieldType)} {mls : Array Slot} {mst : List Value} {cells slots : Nat} (C : FC k p R s m args meth c A E) (S : SS E D A s σ ls st H locs ws tys mls mst (mL k)) (hcs : cells + b = σ.1.length ∧ slots + bs = slz σ.1) (hcap : σ1.1.length ≤ b + R.cells ∧ slz σ1.1 ≤ bs + R.slots) {off : Int} {t : Nat} (hd : decode (mB k) pc = .ok (.if_icmp .le off, 3)) (ht : (pc : Int) + off = (t : Int)) (h : oIfI .le t (pc + 3) ls st σ = some (.inl (pc', ls', st', σ1))) (K : KKp E D A b bs (mL k) p l e R s m args below meth c QQ ws pc' ls' st' σ1) : W p l e R s m args below meth c H locs cells slots QQ (F0 m pc mls mst) := by
  obtain ⟨hx, hb, hml, hown, hts, hnw, hnm, hA, hro, hfr, hlo⟩ := C
  obtain ⟨hK, hP, hD, hS, hR, hL, hT⟩ := S
  have hst : ∃ x y r, st = .int y :: .int x :: r := by
    unfold oIfI at h
    split at h
    all_goals first | exact ⟨_, _, _, rfl⟩ | cases h
  obtain ⟨x, y, r, rfl⟩ := hst
  replace h : (if x ≤ y then nx t ls r σ else nx (pc + 3) ls r σ) = some (.inl (pc', ls', st', σ1)) := h
  obtain ⟨r1, rfl, h1⟩ := SR.int hT
  obtain ⟨r2, rfl, h2⟩ := SR.int h1
  by_cases hc : x ≤ y
  · rw [if_pos hc] at h
    unfold nx at h
    cases h
    exact lv_icmp_le hx hb hd ht (fun _ => K H locs ws tys mls _ cells slots XT.rf ⟨hK, hP, hD, hS, hR, hL, h2⟩ hcs.1 hcs.2) (fun q => absurd hc q)
  · rw [if_neg hc] at h
    unfold nx at h
    cases h
    exact lv_icmp_le hx hb hd ht (fun q => absurd q hc) (fun _ => K H locs ws tys mls _ cells slots XT.rf ⟨hK, hP, hD, hS, hR, hL, h2⟩ hcs.1 hcs.2)
theorem s_goto {p : Program} {l : Launch} {e : Env} {R : Room} {s : State} {m : MethodId} {args : Array Value} {below : List Frame} {meth : Method} {c : Code} {QQ : State → Prop} {D : va_G} {A : Nat → Prop} {E : EX0} {k b bs pc pc' : Nat} {ls ls' : LS0} {st st' : List Value} {σ σ1 : SH} {H : Heap} {locs : List Loc} {ws : va_W} {tys : List (ClassId × FieldType)} {mls : Array Slot} {mst : List Value} {cells slots : Nat} (C : FC k p R s m args meth c A E) (S : SS E D A s σ ls st H locs ws tys mls mst (mL k)) (hcs : cells + b = σ.1.length ∧ slots + bs = slz σ.1) (hcap : σ1.1.length ≤ b + R.cells ∧ slz σ1.1 ≤ bs + R.slots) {n : Nat} (row : W p l e R s m args below meth c H locs cells slots QQ (F0 m n mls mst) → W p l e R s m args below meth c H locs cells slots QQ (F0 m pc mls mst)) (h : nx n ls st σ = some (.inl (pc', ls', st', σ1))) (K : KKp E D A b bs (mL k) p l e R s m args below meth c QQ ws pc' ls' st' σ1) : W p l e R s m args below meth c H locs cells slots QQ (F0 m pc mls mst) := by
  obtain ⟨hx, hb, hml, hown, hts, hnw, hnm, hA, hro, hfr, hlo⟩ := C
  obtain ⟨hK, hP, hD, hS, hR, hL, hT⟩ := S
  unfold nx at h
  cases h
  refine row ?_
  exact K H locs ws tys mls _ cells slots XT.rf ⟨hK, hP, hD, hS, hR, hL, hT⟩ hcs.1 hcs.2
