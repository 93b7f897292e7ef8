/-! any step, by its instruction (printed by wip/whole/gen3.py) -/
theorem vI_spec {k pc : Nat} {r : RI} (h : vI k pc r = true) : decode (mB k) pc = .ok (r.1, r.2.1) ∧ (isSw r.1 = true ∨ r.2.1 = lnI r.1) ∧ vL k pc r = true := by
  unfold vI at h
  simp only [Bool.and_eq_true, Bool.or_eq_true, decide_eq_true_eq] at h
  exact ⟨h.1.1, h.1.2.imp id Nat.eq_of_beq_eq_true, h.2⟩
theorem inc_lt {s : State} {D : va_G} {A : Nat → Prop} {E : EX0} {k pc' : Nat} {ls ls' : LS0} {st st' : List Value} {σ σ1 : SH} {H : Heap} {locs : List Loc} {ws : va_W} {tys : List (ClassId × FieldType)} {mls : Array Slot} {mst : List Value} {i n : Nat} {v : Int32} (S : SS E D A s σ ls st H locs ws tys mls mst (mL k)) (h : oInc i v n ls st σ = some (.inl (pc', ls', st', σ1))) : i < mL k := by
  obtain ⟨-, -, -, -, -, hL, -⟩ := S
  unfold oInc at h
  split at h
  · rename_i x hx
    rw [← hL.2.1]
    exact (List.getElem?_eq_some_iff.mp hx).1
  · cases h
theorem q_iconst {p : Program} {l : Launch} {e : Env} {R : Room} {s : State} {m : MethodId} {args : Array Value} {below : List Frame} {meth : Method} {c : Code} {QQ : State → Prop} {D : va_G} {A : Nat → Prop} {E : EX0} {k b bs pc pc' : Nat} {ls ls' : LS0} {st st' : List Value} {σ σ1 : SH} {H : Heap} {locs : List Loc} {ws : va_W} {tys : List (ClassId × FieldType)} {mls : Array Slot} {mst : List Value} {cells slots : Nat} {n : Int} {len a : Nat} {v : Int32} {tb : List (Int32 × Nat)} (C : FC k p R s m args meth c A E) (S : SS E D A s σ ls st H locs ws tys mls mst (mL k)) (hcs : cells + b = σ.1.length ∧ slots + bs = slz σ.1) (hcap : σ1.1.length ≤ b + R.cells ∧ slz σ1.1 ≤ bs + R.slots) (hv0 : vI k pc ((.iconst n), len, a, v, tb) = true) (h : stepI (exX E) k pc ((.iconst n), len, a, v, tb) ls st σ = some (.inl (pc', ls', st', σ1))) (K : KKp E D A b bs (mL k) p l e R s m args below meth c QQ ws pc' ls' st' σ1) : W p l e R s m args below meth c H locs cells slots QQ (F0 m pc mls mst) := by
  obtain ⟨hd, hl, hv⟩ := vI_spec hv0
  have hl2 := hl.resolve_left (by rintro ⟨⟩)
  dsimp only [lnI] at hl2 hd
  subst hl2
  exact s_push C S hcs hcap (v := .int v) (w := .int v) rfl (fun _ kk => lv_iconst C.1 C.2.1 hd (of_decide_eq_true hv) kk) h K
theorem q_bipush {p : Program} {l : Launch} {e : Env} {R : Room} {s : State} {m : MethodId} {args : Array Value} {below : List Frame} {meth : Method} {c : Code} {QQ : State → Prop} {D : va_G} {A : Nat → Prop} {E : EX0} {k b bs pc pc' : Nat} {ls ls' : LS0} {st st' : List Value} {σ σ1 : SH} {H : Heap} {locs : List Loc} {ws : va_W} {tys : List (ClassId × FieldType)} {mls : Array Slot} {mst : List Value} {cells slots : Nat} {n : Int} {len a : Nat} {v : Int32} {tb : List (Int32 × Nat)} (C : FC k p R s m args meth c A E) (S : SS E D A s σ ls st H locs ws tys mls mst (mL k)) (hcs : cells + b = σ.1.length ∧ slots + bs = slz σ.1) (hcap : σ1.1.length ≤ b + R.cells ∧ slz σ1.1 ≤ bs + R.slots) (hv0 : vI k pc ((.bipush n), len, a, v, tb) = true) (h : stepI (exX E) k pc ((.bipush n), len, a, v, tb) ls st σ = some (.inl (pc', ls', st', σ1))) (K : KKp E D A b bs (mL k) p l e R s m args below meth c QQ ws pc' ls' st' σ1) : W p l e R s m args below meth c H locs cells slots QQ (F0 m pc mls mst) := by
  obtain ⟨hd, hl, hv⟩ := vI_spec hv0
  have hl2 := hl.resolve_left (by rintro ⟨⟩)
  dsimp only [lnI] at hl2 hd
  subst hl2
  exact s_push C S hcs hcap (v := .int v) (w := .int v) rfl (fun _ kk => lv_bipush C.1 C.2.1 hd (of_decide_eq_true hv) kk) h K
theorem q_sipush {p : Program} {l : Launch} {e : Env} {R : Room} {s : State} {m : MethodId} {args : Array Value} {below : List Frame} {meth : Method} {c : Code} {QQ : State → Prop} {D : va_G} {A : Nat → Prop} {E : EX0} {k b bs pc pc' : Nat} {ls ls' : LS0} {st st' : List Value} {σ σ1 : SH} {H : Heap} {locs : List Loc} {ws : va_W} {tys : List (ClassId × FieldType)} {mls : Array Slot} {mst : List Value} {cells slots : Nat} {n : Int} {len a : Nat} {v : Int32} {tb : List (Int32 × Nat)} (C : FC k p R s m args meth c A E) (S : SS E D A s σ ls st H locs ws tys mls mst (mL k)) (hcs : cells + b = σ.1.length ∧ slots + bs = slz σ.1) (hcap : σ1.1.length ≤ b + R.cells ∧ slz σ1.1 ≤ bs + R.slots) (hv0 : vI k pc ((.sipush n), len, a, v, tb) = true) (h : stepI (exX E) k pc ((.sipush n), len, a, v, tb) ls st σ = some (.inl (pc', ls', st', σ1))) (K : KKp E D A b bs (mL k) p l e R s m args below meth c QQ ws pc' ls' st' σ1) : W p l e R s m args below meth c H locs cells slots QQ (F0 m pc mls mst) := by
  obtain ⟨hd, hl, hv⟩ := vI_spec hv0
  have hl2 := hl.resolve_left (by rintro ⟨⟩)
  dsimp only [lnI] at hl2 hd
  subst hl2
  exact s_push C S hcs hcap (v := .int v) (w := .int v) rfl (fun _ kk => lv_sipush C.1 C.2.1 hd (of_decide_eq_true hv) kk) h K
theorem q_ldc {p : Program} {l : Launch} {e : Env} {R : Room} {s : State} {m : MethodId} {args : Array Value} {below : List Frame} {meth : Method} {c : Code} {QQ : State → Prop} {D : va_G} {A : Nat → Prop} {E : EX0} {k b bs pc pc' : Nat} {ls ls' : LS0} {st st' : List Value} {σ σ1 : SH} {H : Heap} {locs : List Loc} {ws : va_W} {tys : List (ClassId × FieldType)} {mls : Array Slot} {mst : List Value} {cells slots : Nat} {n : Nat} {len a : Nat} {v : Int32} {tb : List (Int32 × Nat)} (C : FC k p R s m args meth c A E) (S : SS E D A s σ ls st H locs ws tys mls mst (mL k)) (hcs : cells + b = σ.1.length ∧ slots + bs = slz σ.1) (hcap : σ1.1.length ≤ b + R.cells ∧ slz σ1.1 ≤ bs + R.slots) (hv0 : vI k pc ((.ldc n), len, a, v, tb) = true) (h : stepI (exX E) k pc ((.ldc n), len, a, v, tb) ls st σ = some (.inl (pc', ls', st', σ1))) (K : KKp E D A b bs (mL k) p l e R s m args below meth c QQ ws pc' ls' st' σ1) : W p l e R s m args below meth c H locs cells slots QQ (F0 m pc mls mst) := by
  obtain ⟨hd, hl, hv⟩ := vI_spec hv0
  have hl2 := hl.resolve_left (by rintro ⟨⟩)
  dsimp only [lnI] at hl2 hd
  subst hl2
  exact s_push C S hcs hcap (v := .int v) (w := .int v) rfl (fun _ kk => lv_ldc C.1 C.2.1 C.2.2.2.1 (C.2.2.2.2.1 _ (kl_at (of_decide_eq_true hv))) hd kk) h K
theorem q_ldc_w {p : Program} {l : Launch} {e : Env} {R : Room} {s : State} {m : MethodId} {args : Array Value} {below : List Frame} {meth : Method} {c : Code} {QQ : State → Prop} {D : va_G} {A : Nat → Prop} {E : EX0} {k b bs pc pc' : Nat} {ls ls' : LS0} {st st' : List Value} {σ σ1 : SH} {H : Heap} {locs : List Loc} {ws : va_W} {tys : List (ClassId × FieldType)} {mls : Array Slot} {mst : List Value} {cells slots : Nat} {n : Nat} {len a : Nat} {v : Int32} {tb : List (Int32 × Nat)} (C : FC k p R s m args meth c A E) (S : SS E D A s σ ls st H locs ws tys mls mst (mL k)) (hcs : cells + b = σ.1.length ∧ slots + bs = slz σ.1) (hcap : σ1.1.length ≤ b + R.cells ∧ slz σ1.1 ≤ bs + R.slots) (hv0 : vI k pc ((.ldc_w n), len, a, v, tb) = true) (h : stepI (exX E) k pc ((.ldc_w n), len, a, v, tb) ls st σ = some (.inl (pc', ls', st', σ1))) (K : KKp E D A b bs (mL k) p l e R s m args below meth c QQ ws pc' ls' st' σ1) : W p l e R s m args below meth c H locs cells slots QQ (F0 m pc mls mst) := by
  obtain ⟨hd, hl, hv⟩ := vI_spec hv0
  have hl2 := hl.resolve_left (by rintro ⟨⟩)
  dsimp only [lnI] at hl2 hd
  subst hl2
  exact s_push C S hcs hcap (v := .int v) (w := .int v) rfl (fun _ kk => lv_ldcw C.1 C.2.1 C.2.2.2.1 (C.2.2.2.2.1 _ (kl_at (of_decide_eq_true hv))) hd kk) h K
theorem q_lconst {p : Program} {l : Launch} {e : Env} {R : Room} {s : State} {m : MethodId} {args : Array Value} {below : List Frame} {meth : Method} {c : Code} {QQ : State → Prop} {D : va_G} {A : Nat → Prop} {E : EX0} {k b bs pc pc' : Nat} {ls ls' : LS0} {st st' : List Value} {σ σ1 : SH} {H : Heap} {locs : List Loc} {ws : va_W} {tys : List (ClassId × FieldType)} {mls : Array Slot} {mst : List Value} {cells slots : Nat} {n : Fin 2} {len a : Nat} {v : Int32} {tb : List (Int32 × Nat)} (C : FC k p R s m args meth c A E) (S : SS E D A s σ ls st H locs ws tys mls mst (mL k)) (hcs : cells + b = σ.1.length ∧ slots + bs = slz σ.1) (hcap : σ1.1.length ≤ b + R.cells ∧ slz σ1.1 ≤ bs + R.slots) (hv0 : vI k pc ((.lconst n), len, a, v, tb) = true) (h : stepI (exX E) k pc ((.lconst n), len, a, v, tb) ls st σ = some (.inl (pc', ls', st', σ1))) (K : KKp E D A b bs (mL k) p l e R s m args below meth c QQ ws pc' ls' st' σ1) : W p l e R s m args below meth c H locs cells slots QQ (F0 m pc mls mst) := by
  obtain ⟨hd, hl, hv⟩ := vI_spec hv0
  have hl2 := hl.resolve_left (by rintro ⟨⟩)
  dsimp only [lnI] at hl2 hd
  subst hl2
  exact s_push C S hcs hcap (v := .long (Int64.ofNat (n : Nat))) (w := .long (Int64.ofNat (n : Nat))) rfl (fun _ kk => lv_lconst C.1 C.2.1 hd rfl kk) h K
theorem q_iload {p : Program} {l : Launch} {e : Env} {R : Room} {s : State} {m : MethodId} {args : Array Value} {below : List Frame} {meth : Method} {c : Code} {QQ : State → Prop} {D : va_G} {A : Nat → Prop} {E : EX0} {k b bs pc pc' : Nat} {ls ls' : LS0} {st st' : List Value} {σ σ1 : SH} {H : Heap} {locs : List Loc} {ws : va_W} {tys : List (ClassId × FieldType)} {mls : Array Slot} {mst : List Value} {cells slots : Nat} {i : Nat} {len a : Nat} {v : Int32} {tb : List (Int32 × Nat)} (C : FC k p R s m args meth c A E) (S : SS E D A s σ ls st H locs ws tys mls mst (mL k)) (hcs : cells + b = σ.1.length ∧ slots + bs = slz σ.1) (hcap : σ1.1.length ≤ b + R.cells ∧ slz σ1.1 ≤ bs + R.slots) (hv0 : vI k pc ((.iload i), len, a, v, tb) = true) (h : stepI (exX E) k pc ((.iload i), len, a, v, tb) ls st σ = some (.inl (pc', ls', st', σ1))) (K : KKp E D A b bs (mL k) p l e R s m args below meth c QQ ws pc' ls' st' σ1) : W p l e R s m args below meth c H locs cells slots QQ (F0 m pc mls mst) := by
  obtain ⟨hd, hl, hv⟩ := vI_spec hv0
  have hl2 := hl.resolve_left (by rintro ⟨⟩)
  dsimp only [lnI] at hl2 hd
  subst hl2
  exact s_ild C S hcs hcap (fun _ _ hl kk => lv_iload C.1 C.2.1 hd hl kk) h K
theorem q_iload_n {p : Program} {l : Launch} {e : Env} {R : Room} {s : State} {m : MethodId} {args : Array Value} {below : List Frame} {meth : Method} {c : Code} {QQ : State → Prop} {D : va_G} {A : Nat → Prop} {E : EX0} {k b bs pc pc' : Nat} {ls ls' : LS0} {st st' : List Value} {σ σ1 : SH} {H : Heap} {locs : List Loc} {ws : va_W} {tys : List (ClassId × FieldType)} {mls : Array Slot} {mst : List Value} {cells slots : Nat} {i : Fin 4} {len a : Nat} {v : Int32} {tb : List (Int32 × Nat)} (C : FC k p R s m args meth c A E) (S : SS E D A s σ ls st H locs ws tys mls mst (mL k)) (hcs : cells + b = σ.1.length ∧ slots + bs = slz σ.1) (hcap : σ1.1.length ≤ b + R.cells ∧ slz σ1.1 ≤ bs + R.slots) (hv0 : vI k pc ((.iload_n i), len, a, v, tb) = true) (h : stepI (exX E) k pc ((.iload_n i), len, a, v, tb) ls st σ = some (.inl (pc', ls', st', σ1))) (K : KKp E D A b bs (mL k) p l e R s m args below meth c QQ ws pc' ls' st' σ1) : W p l e R s m args below meth c H locs cells slots QQ (F0 m pc mls mst) := by
  obtain ⟨hd, hl, hv⟩ := vI_spec hv0
  have hl2 := hl.resolve_left (by rintro ⟨⟩)
  dsimp only [lnI] at hl2 hd
  subst hl2
  exact s_ild C S hcs hcap (fun _ _ hl kk => lv_iload_n C.1 C.2.1 hd rfl hl kk) h K
theorem q_lload {p : Program} {l : Launch} {e : Env} {R : Room} {s : State} {m : MethodId} {args : Array Value} {below : List Frame} {meth : Method} {c : Code} {QQ : State → Prop} {D : va_G} {A : Nat → Prop} {E : EX0} {k b bs pc pc' : Nat} {ls ls' : LS0} {st st' : List Value} {σ σ1 : SH} {H : Heap} {locs : List Loc} {ws : va_W} {tys : List (ClassId × FieldType)} {mls : Array Slot} {mst : List Value} {cells slots : Nat} {i : Nat} {len a : Nat} {v : Int32} {tb : List (Int32 × Nat)} (C : FC k p R s m args meth c A E) (S : SS E D A s σ ls st H locs ws tys mls mst (mL k)) (hcs : cells + b = σ.1.length ∧ slots + bs = slz σ.1) (hcap : σ1.1.length ≤ b + R.cells ∧ slz σ1.1 ≤ bs + R.slots) (hv0 : vI k pc ((.lload i), len, a, v, tb) = true) (h : stepI (exX E) k pc ((.lload i), len, a, v, tb) ls st σ = some (.inl (pc', ls', st', σ1))) (K : KKp E D A b bs (mL k) p l e R s m args below meth c QQ ws pc' ls' st' σ1) : W p l e R s m args below meth c H locs cells slots QQ (F0 m pc mls mst) := by
  obtain ⟨hd, hl, hv⟩ := vI_spec hv0
  have hl2 := hl.resolve_left (by rintro ⟨⟩)
  dsimp only [lnI] at hl2 hd
  subst hl2
  exact s_lld C S hcs hcap (fun _ _ hl kk => lv_lload C.1 C.2.1 hd hl kk) h K
theorem q_lload_n {p : Program} {l : Launch} {e : Env} {R : Room} {s : State} {m : MethodId} {args : Array Value} {below : List Frame} {meth : Method} {c : Code} {QQ : State → Prop} {D : va_G} {A : Nat → Prop} {E : EX0} {k b bs pc pc' : Nat} {ls ls' : LS0} {st st' : List Value} {σ σ1 : SH} {H : Heap} {locs : List Loc} {ws : va_W} {tys : List (ClassId × FieldType)} {mls : Array Slot} {mst : List Value} {cells slots : Nat} {i : Fin 4} {len a : Nat} {v : Int32} {tb : List (Int32 × Nat)} (C : FC k p R s m args meth c A E) (S : SS E D A s σ ls st H locs ws tys mls mst (mL k)) (hcs : cells + b = σ.1.length ∧ slots + bs = slz σ.1) (hcap : σ1.1.length ≤ b + R.cells ∧ slz σ1.1 ≤ bs + R.slots) (hv0 : vI k pc ((.lload_n i), len, a, v, tb) = true) (h : stepI (exX E) k pc ((.lload_n i), len, a, v, tb) ls st σ = some (.inl (pc', ls', st', σ1))) (K : KKp E D A b bs (mL k) p l e R s m args below meth c QQ ws pc' ls' st' σ1) : W p l e R s m args below meth c H locs cells slots QQ (F0 m pc mls mst) := by
  obtain ⟨hd, hl, hv⟩ := vI_spec hv0
  have hl2 := hl.resolve_left (by rintro ⟨⟩)
  dsimp only [lnI] at hl2 hd
  subst hl2
  exact s_lld C S hcs hcap (fun _ _ hl kk => lv_lload_n C.1 C.2.1 hd rfl hl kk) h K
theorem q_aload {p : Program} {l : Launch} {e : Env} {R : Room} {s : State} {m : MethodId} {args : Array Value} {below : List Frame} {meth : Method} {c : Code} {QQ : State → Prop} {D : va_G} {A : Nat → Prop} {E : EX0} {k b bs pc pc' : Nat} {ls ls' : LS0} {st st' : List Value} {σ σ1 : SH} {H : Heap} {locs : List Loc} {ws : va_W} {tys : List (ClassId × FieldType)} {mls : Array Slot} {mst : List Value} {cells slots : Nat} {i : Nat} {len a : Nat} {v : Int32} {tb : List (Int32 × Nat)} (C : FC k p R s m args meth c A E) (S : SS E D A s σ ls st H locs ws tys mls mst (mL k)) (hcs : cells + b = σ.1.length ∧ slots + bs = slz σ.1) (hcap : σ1.1.length ≤ b + R.cells ∧ slz σ1.1 ≤ bs + R.slots) (hv0 : vI k pc ((.aload i), len, a, v, tb) = true) (h : stepI (exX E) k pc ((.aload i), len, a, v, tb) ls st σ = some (.inl (pc', ls', st', σ1))) (K : KKp E D A b bs (mL k) p l e R s m args below meth c QQ ws pc' ls' st' σ1) : W p l e R s m args below meth c H locs cells slots QQ (F0 m pc mls mst) := by
  obtain ⟨hd, hl, hv⟩ := vI_spec hv0
  have hl2 := hl.resolve_left (by rintro ⟨⟩)
  dsimp only [lnI] at hl2 hd
  subst hl2
  exact s_ald C S hcs hcap (fun _ _ hl kk => lv_aload C.1 C.2.1 hd hl kk) h K
theorem q_aload_n {p : Program} {l : Launch} {e : Env} {R : Room} {s : State} {m : MethodId} {args : Array Value} {below : List Frame} {meth : Method} {c : Code} {QQ : State → Prop} {D : va_G} {A : Nat → Prop} {E : EX0} {k b bs pc pc' : Nat} {ls ls' : LS0} {st st' : List Value} {σ σ1 : SH} {H : Heap} {locs : List Loc} {ws : va_W} {tys : List (ClassId × FieldType)} {mls : Array Slot} {mst : List Value} {cells slots : Nat} {i : Fin 4} {len a : Nat} {v : Int32} {tb : List (Int32 × Nat)} (C : FC k p R s m args meth c A E) (S : SS E D A s σ ls st H locs ws tys mls mst (mL k)) (hcs : cells + b = σ.1.length ∧ slots + bs = slz σ.1) (hcap : σ1.1.length ≤ b + R.cells ∧ slz σ1.1 ≤ bs + R.slots) (hv0 : vI k pc ((.aload_n i), len, a, v, tb) = true) (h : stepI (exX E) k pc ((.aload_n i), len, a, v, tb) ls st σ = some (.inl (pc', ls', st', σ1))) (K : KKp E D A b bs (mL k) p l e R s m args below meth c QQ ws pc' ls' st' σ1) : W p l e R s m args below meth c H locs cells slots QQ (F0 m pc mls mst) := by
  obtain ⟨hd, hl, hv⟩ := vI_spec hv0
  have hl2 := hl.resolve_left (by rintro ⟨⟩)
  dsimp only [lnI] at hl2 hd
  subst hl2
  exact s_ald C S hcs hcap (fun _ _ hl kk => lv_aload_n C.1 C.2.1 hd rfl hl kk) h K
theorem q_istore {p : Program} {l : Launch} {e : Env} {R : Room} {s : State} {m : MethodId} {args : Array Value} {below : List Frame} {meth : Method} {c : Code} {QQ : State → Prop} {D : va_G} {A : Nat → Prop} {E : EX0} {k b bs pc pc' : Nat} {ls ls' : LS0} {st st' : List Value} {σ σ1 : SH} {H : Heap} {locs : List Loc} {ws : va_W} {tys : List (ClassId × FieldType)} {mls : Array Slot} {mst : List Value} {cells slots : Nat} {i : Nat} {len a : Nat} {v : Int32} {tb : List (Int32 × Nat)} (C : FC k p R s m args meth c A E) (S : SS E D A s σ ls st H locs ws tys mls mst (mL k)) (hcs : cells + b = σ.1.length ∧ slots + bs = slz σ.1) (hcap : σ1.1.length ≤ b + R.cells ∧ slz σ1.1 ≤ bs + R.slots) (hv0 : vI k pc ((.istore i), len, a, v, tb) = true) (h : stepI (exX E) k pc ((.istore i), len, a, v, tb) ls st σ = some (.inl (pc', ls', st', σ1))) (K : KKp E D A b bs (mL k) p l e R s m args below meth c QQ ws pc' ls' st' σ1) : W p l e R s m args below meth c H locs cells slots QQ (F0 m pc mls mst) := by
  obtain ⟨hd, hl, hv⟩ := vI_spec hv0
  have hl2 := hl.resolve_left (by rintro ⟨⟩)
  dsimp only [lnI] at hl2 hd
  subst hl2
  exact s_ist C S hcs hcap (fun _ _ hi hh kk => lv_istore C.1 C.2.1 hd hh hi rfl kk) h K
theorem q_istore_n {p : Program} {l : Launch} {e : Env} {R : Room} {s : State} {m : MethodId} {args : Array Value} {below : List Frame} {meth : Method} {c : Code} {QQ : State → Prop} {D : va_G} {A : Nat → Prop} {E : EX0} {k b bs pc pc' : Nat} {ls ls' : LS0} {st st' : List Value} {σ σ1 : SH} {H : Heap} {locs : List Loc} {ws : va_W} {tys : List (ClassId × FieldType)} {mls : Array Slot} {mst : List Value} {cells slots : Nat} {i : Fin 4} {len a : Nat} {v : Int32} {tb : List (Int32 × Nat)} (C : FC k p R s m args meth c A E) (S : SS E D A s σ ls st H locs ws tys mls mst (mL k)) (hcs : cells + b = σ.1.length ∧ slots + bs = slz σ.1) (hcap : σ1.1.length ≤ b + R.cells ∧ slz σ1.1 ≤ bs + R.slots) (hv0 : vI k pc ((.istore_n i), len, a, v, tb) = true) (h : stepI (exX E) k pc ((.istore_n i), len, a, v, tb) ls st σ = some (.inl (pc', ls', st', σ1))) (K : KKp E D A b bs (mL k) p l e R s m args below meth c QQ ws pc' ls' st' σ1) : W p l e R s m args below meth c H locs cells slots QQ (F0 m pc mls mst) := by
  obtain ⟨hd, hl, hv⟩ := vI_spec hv0
  have hl2 := hl.resolve_left (by rintro ⟨⟩)
  dsimp only [lnI] at hl2 hd
  subst hl2
  exact s_ist C S hcs hcap (fun _ _ hi hh kk => lv_istore_n C.1 C.2.1 hd rfl hh hi rfl kk) h K
theorem q_lstore {p : Program} {l : Launch} {e : Env} {R : Room} {s : State} {m : MethodId} {args : Array Value} {below : List Frame} {meth : Method} {c : Code} {QQ : State → Prop} {D : va_G} {A : Nat → Prop} {E : EX0} {k b bs pc pc' : Nat} {ls ls' : LS0} {st st' : List Value} {σ σ1 : SH} {H : Heap} {locs : List Loc} {ws : va_W} {tys : List (ClassId × FieldType)} {mls : Array Slot} {mst : List Value} {cells slots : Nat} {i : Nat} {len a : Nat} {v : Int32} {tb : List (Int32 × Nat)} (C : FC k p R s m args meth c A E) (S : SS E D A s σ ls st H locs ws tys mls mst (mL k)) (hcs : cells + b = σ.1.length ∧ slots + bs = slz σ.1) (hcap : σ1.1.length ≤ b + R.cells ∧ slz σ1.1 ≤ bs + R.slots) (hv0 : vI k pc ((.lstore i), len, a, v, tb) = true) (h : stepI (exX E) k pc ((.lstore i), len, a, v, tb) ls st σ = some (.inl (pc', ls', st', σ1))) (K : KKp E D A b bs (mL k) p l e R s m args below meth c QQ ws pc' ls' st' σ1) : W p l e R s m args below meth c H locs cells slots QQ (F0 m pc mls mst) := by
  obtain ⟨hd, hl, hv⟩ := vI_spec hv0
  have hl2 := hl.resolve_left (by rintro ⟨⟩)
  dsimp only [lnI] at hl2 hd
  subst hl2
  exact s_lst C S hcs hcap (fun _ _ hi hh kk => lv_lstore C.1 C.2.1 hd hh hi rfl kk) h K
theorem q_lstore_n {p : Program} {l : Launch} {e : Env} {R : Room} {s : State} {m : MethodId} {args : Array Value} {below : List Frame} {meth : Method} {c : Code} {QQ : State → Prop} {D : va_G} {A : Nat → Prop} {E : EX0} {k b bs pc pc' : Nat} {ls ls' : LS0} {st st' : List Value} {σ σ1 : SH} {H : Heap} {locs : List Loc} {ws : va_W} {tys : List (ClassId × FieldType)} {mls : Array Slot} {mst : List Value} {cells slots : Nat} {i : Fin 4} {len a : Nat} {v : Int32} {tb : List (Int32 × Nat)} (C : FC k p R s m args meth c A E) (S : SS E D A s σ ls st H locs ws tys mls mst (mL k)) (hcs : cells + b = σ.1.length ∧ slots + bs = slz σ.1) (hcap : σ1.1.length ≤ b + R.cells ∧ slz σ1.1 ≤ bs + R.slots) (hv0 : vI k pc ((.lstore_n i), len, a, v, tb) = true) (h : stepI (exX E) k pc ((.lstore_n i), len, a, v, tb) ls st σ = some (.inl (pc', ls', st', σ1))) (K : KKp E D A b bs (mL k) p l e R s m args below meth c QQ ws pc' ls' st' σ1) : W p l e R s m args below meth c H locs cells slots QQ (F0 m pc mls mst) := by
  obtain ⟨hd, hl, hv⟩ := vI_spec hv0
  have hl2 := hl.resolve_left (by rintro ⟨⟩)
  dsimp only [lnI] at hl2 hd
  subst hl2
  exact s_lst C S hcs hcap (fun _ _ hi hh kk => lv_lstore_n C.1 C.2.1 hd rfl hh hi rfl kk) h K
theorem q_astore_n {p : Program} {l : Launch} {e : Env} {R : Room} {s : State} {m : MethodId} {args : Array Value} {below : List Frame} {meth : Method} {c : Code} {QQ : State → Prop} {D : va_G} {A : Nat → Prop} {E : EX0} {k b bs pc pc' : Nat} {ls ls' : LS0} {st st' : List Value} {σ σ1 : SH} {H : Heap} {locs : List Loc} {ws : va_W} {tys : List (ClassId × FieldType)} {mls : Array Slot} {mst : List Value} {cells slots : Nat} {i : Fin 4} {len a : Nat} {v : Int32} {tb : List (Int32 × Nat)} (C : FC k p R s m args meth c A E) (S : SS E D A s σ ls st H locs ws tys mls mst (mL k)) (hcs : cells + b = σ.1.length ∧ slots + bs = slz σ.1) (hcap : σ1.1.length ≤ b + R.cells ∧ slz σ1.1 ≤ bs + R.slots) (hv0 : vI k pc ((.astore_n i), len, a, v, tb) = true) (h : stepI (exX E) k pc ((.astore_n i), len, a, v, tb) ls st σ = some (.inl (pc', ls', st', σ1))) (K : KKp E D A b bs (mL k) p l e R s m args below meth c QQ ws pc' ls' st' σ1) : W p l e R s m args below meth c H locs cells slots QQ (F0 m pc mls mst) := by
  obtain ⟨hd, hl, hv⟩ := vI_spec hv0
  have hl2 := hl.resolve_left (by rintro ⟨⟩)
  dsimp only [lnI] at hl2 hd
  subst hl2
  exact s_ast C S hcs hcap (fun _ _ hi hh kk => lv_astore_n C.1 C.2.1 hd rfl hh hi rfl kk) h K
theorem q_iinc {p : Program} {l : Launch} {e : Env} {R : Room} {s : State} {m : MethodId} {args : Array Value} {below : List Frame} {meth : Method} {c : Code} {QQ : State → Prop} {D : va_G} {A : Nat → Prop} {E : EX0} {k b bs pc pc' : Nat} {ls ls' : LS0} {st st' : List Value} {σ σ1 : SH} {H : Heap} {locs : List Loc} {ws : va_W} {tys : List (ClassId × FieldType)} {mls : Array Slot} {mst : List Value} {cells slots : Nat} {i : Nat} {n : Int} {len a : Nat} {v : Int32} {tb : List (Int32 × Nat)} (C : FC k p R s m args meth c A E) (S : SS E D A s σ ls st H locs ws tys mls mst (mL k)) (hcs : cells + b = σ.1.length ∧ slots + bs = slz σ.1) (hcap : σ1.1.length ≤ b + R.cells ∧ slz σ1.1 ≤ bs + R.slots) (hv0 : vI k pc ((.iinc i n), len, a, v, tb) = true) (h : stepI (exX E) k pc ((.iinc i n), len, a, v, tb) ls st σ = some (.inl (pc', ls', st', σ1))) (K : KKp E D A b bs (mL k) p l e R s m args below meth c QQ ws pc' ls' st' σ1) : W p l e R s m args below meth c H locs cells slots QQ (F0 m pc mls mst) := by
  obtain ⟨hd, hl, hv⟩ := vI_spec hv0
  have hl2 := hl.resolve_left (by rintro ⟨⟩)
  dsimp only [lnI] at hl2 hd
  subst hl2
  exact s_inc C S hcs hcap (i := i) (v := v) (inc_lt S h) (fun _ _ hh hq kk => lv_iinc C.1 C.2.1 hd hh hq (by rw [of_decide_eq_true hv]) (inc_lt S h) rfl kk) h K
theorem q_iadd {p : Program} {l : Launch} {e : Env} {R : Room} {s : State} {m : MethodId} {args : Array Value} {below : List Frame} {meth : Method} {c : Code} {QQ : State → Prop} {D : va_G} {A : Nat → Prop} {E : EX0} {k b bs pc pc' : Nat} {ls ls' : LS0} {st st' : List Value} {σ σ1 : SH} {H : Heap} {locs : List Loc} {ws : va_W} {tys : List (ClassId × FieldType)} {mls : Array Slot} {mst : List Value} {cells slots : Nat} {len a : Nat} {v : Int32} {tb : List (Int32 × Nat)} (C : FC k p R s m args meth c A E) (S : SS E D A s σ ls st H locs ws tys mls mst (mL k)) (hcs : cells + b = σ.1.length ∧ slots + bs = slz σ.1) (hcap : σ1.1.length ≤ b + R.cells ∧ slz σ1.1 ≤ bs + R.slots) (hv0 : vI k pc (.iadd, len, a, v, tb) = true) (h : stepI (exX E) k pc (.iadd, len, a, v, tb) ls st σ = some (.inl (pc', ls', st', σ1))) (K : KKp E D A b bs (mL k) p l e R s m args below meth c QQ ws pc' ls' st' σ1) : W p l e R s m args below meth c H locs cells slots QQ (F0 m pc mls mst) := by
  obtain ⟨hd, hl, hv⟩ := vI_spec hv0
  have hl2 := hl.resolve_left (by rintro ⟨⟩)
  dsimp only [lnI] at hl2 hd
  subst hl2
  exact s_i2 C S hcs hcap (fun _ _ _ kk => lv_iadd C.1 C.2.1 hd kk) h K
theorem q_isub {p : Program} {l : Launch} {e : Env} {R : Room} {s : State} {m : MethodId} {args : Array Value} {below : List Frame} {meth : Method} {c : Code} {QQ : State → Prop} {D : va_G} {A : Nat → Prop} {E : EX0} {k b bs pc pc' : Nat} {ls ls' : LS0} {st st' : List Value} {σ σ1 : SH} {H : Heap} {locs : List Loc} {ws : va_W} {tys : List (ClassId × FieldType)} {mls : Array Slot} {mst : List Value} {cells slots : Nat} {len a : Nat} {v : Int32} {tb : List (Int32 × Nat)} (C : FC k p R s m args meth c A E) (S : SS E D A s σ ls st H locs ws tys mls mst (mL k)) (hcs : cells + b = σ.1.length ∧ slots + bs = slz σ.1) (hcap : σ1.1.length ≤ b + R.cells ∧ slz σ1.1 ≤ bs + R.slots) (hv0 : vI k pc (.isub, len, a, v, tb) = true) (h : stepI (exX E) k pc (.isub, len, a, v, tb) ls st σ = some (.inl (pc', ls', st', σ1))) (K : KKp E D A b bs (mL k) p l e R s m args below meth c QQ ws pc' ls' st' σ1) : W p l e R s m args below meth c H locs cells slots QQ (F0 m pc mls mst) := by
  obtain ⟨hd, hl, hv⟩ := vI_spec hv0
  have hl2 := hl.resolve_left (by rintro ⟨⟩)
  dsimp only [lnI] at hl2 hd
  subst hl2
  exact s_i2 C S hcs hcap (fun _ _ _ kk => lv_isub C.1 C.2.1 hd kk) h K
theorem q_imul {p : Program} {l : Launch} {e : Env} {R : Room} {s : State} {m : MethodId} {args : Array Value} {below : List Frame} {meth : Method} {c : Code} {QQ : State → Prop} {D : va_G} {A : Nat → Prop} {E : EX0} {k b bs pc pc' : Nat} {ls ls' : LS0} {st st' : List Value} {σ σ1 : SH} {H : Heap} {locs : List Loc} {ws : va_W} {tys : List (ClassId × FieldType)} {mls : Array Slot} {mst : List Value} {cells slots : Nat} {len a : Nat} {v : Int32} {tb : List (Int32 × Nat)} (C : FC k p R s m args meth c A E) (S : SS E D A s σ ls st H locs ws tys mls mst (mL k)) (hcs : cells + b = σ.1.length ∧ slots + bs = slz σ.1) (hcap : σ1.1.length ≤ b + R.cells ∧ slz σ1.1 ≤ bs + R.slots) (hv0 : vI k pc (.imul, len, a, v, tb) = true) (h : stepI (exX E) k pc (.imul, len, a, v, tb) ls st σ = some (.inl (pc', ls', st', σ1))) (K : KKp E D A b bs (mL k) p l e R s m args below meth c QQ ws pc' ls' st' σ1) : W p l e R s m args below meth c H locs cells slots QQ (F0 m pc mls mst) := by
  obtain ⟨hd, hl, hv⟩ := vI_spec hv0
  have hl2 := hl.resolve_left (by rintro ⟨⟩)
  dsimp only [lnI] at hl2 hd
  subst hl2
  exact s_i2 C S hcs hcap (fun _ _ _ kk => lv_imul C.1 C.2.1 hd kk) h K
theorem q_iand {p : Program} {l : Launch} {e : Env} {R : Room} {s : State} {m : MethodId} {args : Array Value} {below : List Frame} {meth : Method} {c : Code} {QQ : State → Prop} {D : va_G} {A : Nat → Prop} {E : EX0} {k b bs pc pc' : Nat} {ls ls' : LS0} {st st' : List Value} {σ σ1 : SH} {H : Heap} {locs : List Loc} {ws : va_W} {tys : List (ClassId × FieldType)} {mls : Array Slot} {mst : List Value} {cells slots : Nat} {len a : Nat} {v : Int32} {tb : List (Int32 × Nat)} (C : FC k p R s m args meth c A E) (S : SS E D A s σ ls st H locs ws tys mls mst (mL k)) (hcs : cells + b = σ.1.length ∧ slots + bs = slz σ.1) (hcap : σ1.1.length ≤ b + R.cells ∧ slz σ1.1 ≤ bs + R.slots) (hv0 : vI k pc (.iand, len, a, v, tb) = true) (h : stepI (exX E) k pc (.iand, len, a, v, tb) ls st σ = some (.inl (pc', ls', st', σ1))) (K : KKp E D A b bs (mL k) p l e R s m args below meth c QQ ws pc' ls' st' σ1) : W p l e R s m args below meth c H locs cells slots QQ (F0 m pc mls mst) := by
  obtain ⟨hd, hl, hv⟩ := vI_spec hv0
  have hl2 := hl.resolve_left (by rintro ⟨⟩)
  dsimp only [lnI] at hl2 hd
  subst hl2
  exact s_i2 C S hcs hcap (fun _ _ _ kk => lv_iand C.1 C.2.1 hd kk) h K
theorem q_ior {p : Program} {l : Launch} {e : Env} {R : Room} {s : State} {m : MethodId} {args : Array Value} {below : List Frame} {meth : Method} {c : Code} {QQ : State → Prop} {D : va_G} {A : Nat → Prop} {E : EX0} {k b bs pc pc' : Nat} {ls ls' : LS0} {st st' : List Value} {σ σ1 : SH} {H : Heap} {locs : List Loc} {ws : va_W} {tys : List (ClassId × FieldType)} {mls : Array Slot} {mst : List Value} {cells slots : Nat} {len a : Nat} {v : Int32} {tb : List (Int32 × Nat)} (C : FC k p R s m args meth c A E) (S : SS E D A s σ ls st H locs ws tys mls mst (mL k)) (hcs : cells + b = σ.1.length ∧ slots + bs = slz σ.1) (hcap : σ1.1.length ≤ b + R.cells ∧ slz σ1.1 ≤ bs + R.slots) (hv0 : vI k pc (.ior, len, a, v, tb) = true) (h : stepI (exX E) k pc (.ior, len, a, v, tb) ls st σ = some (.inl (pc', ls', st', σ1))) (K : KKp E D A b bs (mL k) p l e R s m args below meth c QQ ws pc' ls' st' σ1) : W p l e R s m args below meth c H locs cells slots QQ (F0 m pc mls mst) := by
  obtain ⟨hd, hl, hv⟩ := vI_spec hv0
  have hl2 := hl.resolve_left (by rintro ⟨⟩)
  dsimp only [lnI] at hl2 hd
  subst hl2
  exact s_i2 C S hcs hcap (fun _ _ _ kk => lv_ior C.1 C.2.1 hd kk) h K
theorem q_ixor {p : Program} {l : Launch} {e : Env} {R : Room} {s : State} {m : MethodId} {args : Array Value} {below : List Frame} {meth : Method} {c : Code} {QQ : State → Prop} {D : va_G} {A : Nat → Prop} {E : EX0} {k b bs pc pc' : Nat} {ls ls' : LS0} {st st' : List Value} {σ σ1 : SH} {H : Heap} {locs : List Loc} {ws : va_W} {tys : List (ClassId × FieldType)} {mls : Array Slot} {mst : List Value} {cells slots : Nat} {len a : Nat} {v : Int32} {tb : List (Int32 × Nat)} (C : FC k p R s m args meth c A E) (S : SS E D A s σ ls st H locs ws tys mls mst (mL k)) (hcs : cells + b = σ.1.length ∧ slots + bs = slz σ.1) (hcap : σ1.1.length ≤ b + R.cells ∧ slz σ1.1 ≤ bs + R.slots) (hv0 : vI k pc (.ixor, len, a, v, tb) = true) (h : stepI (exX E) k pc (.ixor, len, a, v, tb) ls st σ = some (.inl (pc', ls', st', σ1))) (K : KKp E D A b bs (mL k) p l e R s m args below meth c QQ ws pc' ls' st' σ1) : W p l e R s m args below meth c H locs cells slots QQ (F0 m pc mls mst) := by
  obtain ⟨hd, hl, hv⟩ := vI_spec hv0
  have hl2 := hl.resolve_left (by rintro ⟨⟩)
  dsimp only [lnI] at hl2 hd
  subst hl2
  exact s_i2 C S hcs hcap (fun _ _ _ kk => lv_ixor C.1 C.2.1 hd kk) h K
theorem q_ishl {p : Program} {l : Launch} {e : Env} {R : Room} {s : State} {m : MethodId} {args : Array Value} {below : List Frame} {meth : Method} {c : Code} {QQ : State → Prop} {D : va_G} {A : Nat → Prop} {E : EX0} {k b bs pc pc' : Nat} {ls ls' : LS0} {st st' : List Value} {σ σ1 : SH} {H : Heap} {locs : List Loc} {ws : va_W} {tys : List (ClassId × FieldType)} {mls : Array Slot} {mst : List Value} {cells slots : Nat} {len a : Nat} {v : Int32} {tb : List (Int32 × Nat)} (C : FC k p R s m args meth c A E) (S : SS E D A s σ ls st H locs ws tys mls mst (mL k)) (hcs : cells + b = σ.1.length ∧ slots + bs = slz σ.1) (hcap : σ1.1.length ≤ b + R.cells ∧ slz σ1.1 ≤ bs + R.slots) (hv0 : vI k pc (.ishl, len, a, v, tb) = true) (h : stepI (exX E) k pc (.ishl, len, a, v, tb) ls st σ = some (.inl (pc', ls', st', σ1))) (K : KKp E D A b bs (mL k) p l e R s m args below meth c QQ ws pc' ls' st' σ1) : W p l e R s m args below meth c H locs cells slots QQ (F0 m pc mls mst) := by
  obtain ⟨hd, hl, hv⟩ := vI_spec hv0
  have hl2 := hl.resolve_left (by rintro ⟨⟩)
  dsimp only [lnI] at hl2 hd
  subst hl2
  exact s_i2 C S hcs hcap (fun _ _ _ kk => lv_ishl C.1 C.2.1 hd kk) h K
theorem q_ishr {p : Program} {l : Launch} {e : Env} {R : Room} {s : State} {m : MethodId} {args : Array Value} {below : List Frame} {meth : Method} {c : Code} {QQ : State → Prop} {D : va_G} {A : Nat → Prop} {E : EX0} {k b bs pc pc' : Nat} {ls ls' : LS0} {st st' : List Value} {σ σ1 : SH} {H : Heap} {locs : List Loc} {ws : va_W} {tys : List (ClassId × FieldType)} {mls : Array Slot} {mst : List Value} {cells slots : Nat} {len a : Nat} {v : Int32} {tb : List (Int32 × Nat)} (C : FC k p R s m args meth c A E) (S : SS E D A s σ ls st H locs ws tys mls mst (mL k)) (hcs : cells + b = σ.1.length ∧ slots + bs = slz σ.1) (hcap : σ1.1.length ≤ b + R.cells ∧ slz σ1.1 ≤ bs + R.slots) (hv0 : vI k pc (.ishr, len, a, v, tb) = true) (h : stepI (exX E) k pc (.ishr, len, a, v, tb) ls st σ = some (.inl (pc', ls', st', σ1))) (K : KKp E D A b bs (mL k) p l e R s m args below meth c QQ ws pc' ls' st' σ1) : W p l e R s m args below meth c H locs cells slots QQ (F0 m pc mls mst) := by
  obtain ⟨hd, hl, hv⟩ := vI_spec hv0
  have hl2 := hl.resolve_left (by rintro ⟨⟩)
  dsimp only [lnI] at hl2 hd
  subst hl2
  exact s_i2 C S hcs hcap (fun _ _ _ kk => lv_ishr C.1 C.2.1 hd kk) h K
theorem q_ladd {p : Program} {l : Launch} {e : Env} {R : Room} {s : State} {m : MethodId} {args : Array Value} {below : List Frame} {meth : Method} {c : Code} {QQ : State → Prop} {D : va_G} {A : Nat → Prop} {E : EX0} {k b bs pc pc' : Nat} {ls ls' : LS0} {st st' : List Value} {σ σ1 : SH} {H : Heap} {locs : List Loc} {ws : va_W} {tys : List (ClassId × FieldType)} {mls : Array Slot} {mst : List Value} {cells slots : Nat} {len a : Nat} {v : Int32} {tb : List (Int32 × Nat)} (C : FC k p R s m args meth c A E) (S : SS E D A s σ ls st H locs ws tys mls mst (mL k)) (hcs : cells + b = σ.1.length ∧ slots + bs = slz σ.1) (hcap : σ1.1.length ≤ b + R.cells ∧ slz σ1.1 ≤ bs + R.slots) (hv0 : vI k pc (.ladd, len, a, v, tb) = true) (h : stepI (exX E) k pc (.ladd, len, a, v, tb) ls st σ = some (.inl (pc', ls', st', σ1))) (K : KKp E D A b bs (mL k) p l e R s m args below meth c QQ ws pc' ls' st' σ1) : W p l e R s m args below meth c H locs cells slots QQ (F0 m pc mls mst) := by
  obtain ⟨hd, hl, hv⟩ := vI_spec hv0
  have hl2 := hl.resolve_left (by rintro ⟨⟩)
  dsimp only [lnI] at hl2 hd
  subst hl2
  exact s_l2 C S hcs hcap (fun _ _ _ kk => lv_ladd C.1 C.2.1 hd kk) h K
theorem q_lsub {p : Program} {l : Launch} {e : Env} {R : Room} {s : State} {m : MethodId} {args : Array Value} {below : List Frame} {meth : Method} {c : Code} {QQ : State → Prop} {D : va_G} {A : Nat → Prop} {E : EX0} {k b bs pc pc' : Nat} {ls ls' : LS0} {st st' : List Value} {σ σ1 : SH} {H : Heap} {locs : List Loc} {ws : va_W} {tys : List (ClassId × FieldType)} {mls : Array Slot} {mst : List Value} {cells slots : Nat} {len a : Nat} {v : Int32} {tb : List (Int32 × Nat)} (C : FC k p R s m args meth c A E) (S : SS E D A s σ ls st H locs ws tys mls mst (mL k)) (hcs : cells + b = σ.1.length ∧ slots + bs = slz σ.1) (hcap : σ1.1.length ≤ b + R.cells ∧ slz σ1.1 ≤ bs + R.slots) (hv0 : vI k pc (.lsub, len, a, v, tb) = true) (h : stepI (exX E) k pc (.lsub, len, a, v, tb) ls st σ = some (.inl (pc', ls', st', σ1))) (K : KKp E D A b bs (mL k) p l e R s m args below meth c QQ ws pc' ls' st' σ1) : W p l e R s m args below meth c H locs cells slots QQ (F0 m pc mls mst) := by
  obtain ⟨hd, hl, hv⟩ := vI_spec hv0
  have hl2 := hl.resolve_left (by rintro ⟨⟩)
  dsimp only [lnI] at hl2 hd
  subst hl2
  exact s_l2 C S hcs hcap (fun _ _ _ kk => lv_lsub C.1 C.2.1 hd kk) h K
theorem q_lmul {p : Program} {l : Launch} {e : Env} {R : Room} {s : State} {m : MethodId} {args : Array Value} {below : List Frame} {meth : Method} {c : Code} {QQ : State → Prop} {D : va_G} {A : Nat → Prop} {E : EX0} {k b bs pc pc' : Nat} {ls ls' : LS0} {st st' : List Value} {σ σ1 : SH} {H : Heap} {locs : List Loc} {ws : va_W} {tys : List (ClassId × FieldType)} {mls : Array Slot} {mst : List Value} {cells slots : Nat} {len a : Nat} {v : Int32} {tb : List (Int32 × Nat)} (C : FC k p R s m args meth c A E) (S : SS E D A s σ ls st H locs ws tys mls mst (mL k)) (hcs : cells + b = σ.1.length ∧ slots + bs = slz σ.1) (hcap : σ1.1.length ≤ b + R.cells ∧ slz σ1.1 ≤ bs + R.slots) (hv0 : vI k pc (.lmul, len, a, v, tb) = true) (h : stepI (exX E) k pc (.lmul, len, a, v, tb) ls st σ = some (.inl (pc', ls', st', σ1))) (K : KKp E D A b bs (mL k) p l e R s m args below meth c QQ ws pc' ls' st' σ1) : W p l e R s m args below meth c H locs cells slots QQ (F0 m pc mls mst) := by
  obtain ⟨hd, hl, hv⟩ := vI_spec hv0
  have hl2 := hl.resolve_left (by rintro ⟨⟩)
  dsimp only [lnI] at hl2 hd
  subst hl2
  exact s_l2 C S hcs hcap (fun _ _ _ kk => lv_lmul C.1 C.2.1 hd kk) h K
theorem q_idiv {p : Program} {l : Launch} {e : Env} {R : Room} {s : State} {m : MethodId} {args : Array Value} {below : List Frame} {meth : Method} {c : Code} {QQ : State → Prop} {D : va_G} {A : Nat → Prop} {E : EX0} {k b bs pc pc' : Nat} {ls ls' : LS0} {st st' : List Value} {σ σ1 : SH} {H : Heap} {locs : List Loc} {ws : va_W} {tys : List (ClassId × FieldType)} {mls : Array Slot} {mst : List Value} {cells slots : Nat} {len a : Nat} {v : Int32} {tb : List (Int32 × Nat)} (C : FC k p R s m args meth c A E) (S : SS E D A s σ ls st H locs ws tys mls mst (mL k)) (hcs : cells + b = σ.1.length ∧ slots + bs = slz σ.1) (hcap : σ1.1.length ≤ b + R.cells ∧ slz σ1.1 ≤ bs + R.slots) (hv0 : vI k pc (.idiv, len, a, v, tb) = true) (h : stepI (exX E) k pc (.idiv, len, a, v, tb) ls st σ = some (.inl (pc', ls', st', σ1))) (K : KKp E D A b bs (mL k) p l e R s m args below meth c QQ ws pc' ls' st' σ1) : W p l e R s m args below meth c H locs cells slots QQ (F0 m pc mls mst) := by
  obtain ⟨hd, hl, hv⟩ := vI_spec hv0
  have hl2 := hl.resolve_left (by rintro ⟨⟩)
  dsimp only [lnI] at hl2 hd
  subst hl2
  exact s_idv C S hcs hcap (fun _ _ _ hne kk => lv_idiv C.1 C.2.1 hd hne kk) h K
theorem q_irem {p : Program} {l : Launch} {e : Env} {R : Room} {s : State} {m : MethodId} {args : Array Value} {below : List Frame} {meth : Method} {c : Code} {QQ : State → Prop} {D : va_G} {A : Nat → Prop} {E : EX0} {k b bs pc pc' : Nat} {ls ls' : LS0} {st st' : List Value} {σ σ1 : SH} {H : Heap} {locs : List Loc} {ws : va_W} {tys : List (ClassId × FieldType)} {mls : Array Slot} {mst : List Value} {cells slots : Nat} {len a : Nat} {v : Int32} {tb : List (Int32 × Nat)} (C : FC k p R s m args meth c A E) (S : SS E D A s σ ls st H locs ws tys mls mst (mL k)) (hcs : cells + b = σ.1.length ∧ slots + bs = slz σ.1) (hcap : σ1.1.length ≤ b + R.cells ∧ slz σ1.1 ≤ bs + R.slots) (hv0 : vI k pc (.irem, len, a, v, tb) = true) (h : stepI (exX E) k pc (.irem, len, a, v, tb) ls st σ = some (.inl (pc', ls', st', σ1))) (K : KKp E D A b bs (mL k) p l e R s m args below meth c QQ ws pc' ls' st' σ1) : W p l e R s m args below meth c H locs cells slots QQ (F0 m pc mls mst) := by
  obtain ⟨hd, hl, hv⟩ := vI_spec hv0
  have hl2 := hl.resolve_left (by rintro ⟨⟩)
  dsimp only [lnI] at hl2 hd
  subst hl2
  exact s_idv C S hcs hcap (fun _ _ _ hne kk => lv_irem C.1 C.2.1 hd hne kk) h K
theorem q_ldiv {p : Program} {l : Launch} {e : Env} {R : Room} {s : State} {m : MethodId} {args : Array Value} {below : List Frame} {meth : Method} {c : Code} {QQ : State → Prop} {D : va_G} {A : Nat → Prop} {E : EX0} {k b bs pc pc' : Nat} {ls ls' : LS0} {st st' : List Value} {σ σ1 : SH} {H : Heap} {locs : List Loc} {ws : va_W} {tys : List (ClassId × FieldType)} {mls : Array Slot} {mst : List Value} {cells slots : Nat} {len a : Nat} {v : Int32} {tb : List (Int32 × Nat)} (C : FC k p R s m args meth c A E) (S : SS E D A s σ ls st H locs ws tys mls mst (mL k)) (hcs : cells + b = σ.1.length ∧ slots + bs = slz σ.1) (hcap : σ1.1.length ≤ b + R.cells ∧ slz σ1.1 ≤ bs + R.slots) (hv0 : vI k pc (.ldiv, len, a, v, tb) = true) (h : stepI (exX E) k pc (.ldiv, len, a, v, tb) ls st σ = some (.inl (pc', ls', st', σ1))) (K : KKp E D A b bs (mL k) p l e R s m args below meth c QQ ws pc' ls' st' σ1) : W p l e R s m args below meth c H locs cells slots QQ (F0 m pc mls mst) := by
  obtain ⟨hd, hl, hv⟩ := vI_spec hv0
  have hl2 := hl.resolve_left (by rintro ⟨⟩)
  dsimp only [lnI] at hl2 hd
  subst hl2
  exact s_ldv C S hcs hcap (fun _ _ _ hne kk => lv_ldiv C.1 C.2.1 hd hne kk) h K
theorem q_lrem {p : Program} {l : Launch} {e : Env} {R : Room} {s : State} {m : MethodId} {args : Array Value} {below : List Frame} {meth : Method} {c : Code} {QQ : State → Prop} {D : va_G} {A : Nat → Prop} {E : EX0} {k b bs pc pc' : Nat} {ls ls' : LS0} {st st' : List Value} {σ σ1 : SH} {H : Heap} {locs : List Loc} {ws : va_W} {tys : List (ClassId × FieldType)} {mls : Array Slot} {mst : List Value} {cells slots : Nat} {len a : Nat} {v : Int32} {tb : List (Int32 × Nat)} (C : FC k p R s m args meth c A E) (S : SS E D A s σ ls st H locs ws tys mls mst (mL k)) (hcs : cells + b = σ.1.length ∧ slots + bs = slz σ.1) (hcap : σ1.1.length ≤ b + R.cells ∧ slz σ1.1 ≤ bs + R.slots) (hv0 : vI k pc (.lrem, len, a, v, tb) = true) (h : stepI (exX E) k pc (.lrem, len, a, v, tb) ls st σ = some (.inl (pc', ls', st', σ1))) (K : KKp E D A b bs (mL k) p l e R s m args below meth c QQ ws pc' ls' st' σ1) : W p l e R s m args below meth c H locs cells slots QQ (F0 m pc mls mst) := by
  obtain ⟨hd, hl, hv⟩ := vI_spec hv0
  have hl2 := hl.resolve_left (by rintro ⟨⟩)
  dsimp only [lnI] at hl2 hd
  subst hl2
  exact s_ldv C S hcs hcap (fun _ _ _ hne kk => lv_lrem C.1 C.2.1 hd hne kk) h K
theorem q_ineg {p : Program} {l : Launch} {e : Env} {R : Room} {s : State} {m : MethodId} {args : Array Value} {below : List Frame} {meth : Method} {c : Code} {QQ : State → Prop} {D : va_G} {A : Nat → Prop} {E : EX0} {k b bs pc pc' : Nat} {ls ls' : LS0} {st st' : List Value} {σ σ1 : SH} {H : Heap} {locs : List Loc} {ws : va_W} {tys : List (ClassId × FieldType)} {mls : Array Slot} {mst : List Value} {cells slots : Nat} {len a : Nat} {v : Int32} {tb : List (Int32 × Nat)} (C : FC k p R s m args meth c A E) (S : SS E D A s σ ls st H locs ws tys mls mst (mL k)) (hcs : cells + b = σ.1.length ∧ slots + bs = slz σ.1) (hcap : σ1.1.length ≤ b + R.cells ∧ slz σ1.1 ≤ bs + R.slots) (hv0 : vI k pc (.ineg, len, a, v, tb) = true) (h : stepI (exX E) k pc (.ineg, len, a, v, tb) ls st σ = some (.inl (pc', ls', st', σ1))) (K : KKp E D A b bs (mL k) p l e R s m args below meth c QQ ws pc' ls' st' σ1) : W p l e R s m args below meth c H locs cells slots QQ (F0 m pc mls mst) := by
  obtain ⟨hd, hl, hv⟩ := vI_spec hv0
  have hl2 := hl.resolve_left (by rintro ⟨⟩)
  dsimp only [lnI] at hl2 hd
  subst hl2
  exact s_neg C S hcs hcap (fun _ _ kk => lv_ineg C.1 C.2.1 hd kk) h K
theorem q_i2l {p : Program} {l : Launch} {e : Env} {R : Room} {s : State} {m : MethodId} {args : Array Value} {below : List Frame} {meth : Method} {c : Code} {QQ : State → Prop} {D : va_G} {A : Nat → Prop} {E : EX0} {k b bs pc pc' : Nat} {ls ls' : LS0} {st st' : List Value} {σ σ1 : SH} {H : Heap} {locs : List Loc} {ws : va_W} {tys : List (ClassId × FieldType)} {mls : Array Slot} {mst : List Value} {cells slots : Nat} {len a : Nat} {v : Int32} {tb : List (Int32 × Nat)} (C : FC k p R s m args meth c A E) (S : SS E D A s σ ls st H locs ws tys mls mst (mL k)) (hcs : cells + b = σ.1.length ∧ slots + bs = slz σ.1) (hcap : σ1.1.length ≤ b + R.cells ∧ slz σ1.1 ≤ bs + R.slots) (hv0 : vI k pc (.i2l, len, a, v, tb) = true) (h : stepI (exX E) k pc (.i2l, len, a, v, tb) ls st σ = some (.inl (pc', ls', st', σ1))) (K : KKp E D A b bs (mL k) p l e R s m args below meth c QQ ws pc' ls' st' σ1) : W p l e R s m args below meth c H locs cells slots QQ (F0 m pc mls mst) := by
  obtain ⟨hd, hl, hv⟩ := vI_spec hv0
  have hl2 := hl.resolve_left (by rintro ⟨⟩)
  dsimp only [lnI] at hl2 hd
  subst hl2
  exact s_i2l C S hcs hcap (fun _ _ kk => lv_i2l C.1 C.2.1 hd rfl kk) h K
theorem q_lcmp {p : Program} {l : Launch} {e : Env} {R : Room} {s : State} {m : MethodId} {args : Array Value} {below : List Frame} {meth : Method} {c : Code} {QQ : State → Prop} {D : va_G} {A : Nat → Prop} {E : EX0} {k b bs pc pc' : Nat} {ls ls' : LS0} {st st' : List Value} {σ σ1 : SH} {H : Heap} {locs : List Loc} {ws : va_W} {tys : List (ClassId × FieldType)} {mls : Array Slot} {mst : List Value} {cells slots : Nat} {len a : Nat} {v : Int32} {tb : List (Int32 × Nat)} (C : FC k p R s m args meth c A E) (S : SS E D A s σ ls st H locs ws tys mls mst (mL k)) (hcs : cells + b = σ.1.length ∧ slots + bs = slz σ.1) (hcap : σ1.1.length ≤ b + R.cells ∧ slz σ1.1 ≤ bs + R.slots) (hv0 : vI k pc (.lcmp, len, a, v, tb) = true) (h : stepI (exX E) k pc (.lcmp, len, a, v, tb) ls st σ = some (.inl (pc', ls', st', σ1))) (K : KKp E D A b bs (mL k) p l e R s m args below meth c QQ ws pc' ls' st' σ1) : W p l e R s m args below meth c H locs cells slots QQ (F0 m pc mls mst) := by
  obtain ⟨hd, hl, hv⟩ := vI_spec hv0
  have hl2 := hl.resolve_left (by rintro ⟨⟩)
  dsimp only [lnI] at hl2 hd
  subst hl2
  exact s_lcmp C S hcs hcap (fun _ _ _ kk => W.lcmp C.1 C.2.1 hd kk) h K
theorem q_dup {p : Program} {l : Launch} {e : Env} {R : Room} {s : State} {m : MethodId} {args : Array Value} {below : List Frame} {meth : Method} {c : Code} {QQ : State → Prop} {D : va_G} {A : Nat → Prop} {E : EX0} {k b bs pc pc' : Nat} {ls ls' : LS0} {st st' : List Value} {σ σ1 : SH} {H : Heap} {locs : List Loc} {ws : va_W} {tys : List (ClassId × FieldType)} {mls : Array Slot} {mst : List Value} {cells slots : Nat} {len a : Nat} {v : Int32} {tb : List (Int32 × Nat)} (C : FC k p R s m args meth c A E) (S : SS E D A s σ ls st H locs ws tys mls mst (mL k)) (hcs : cells + b = σ.1.length ∧ slots + bs = slz σ.1) (hcap : σ1.1.length ≤ b + R.cells ∧ slz σ1.1 ≤ bs + R.slots) (hv0 : vI k pc (.dup, len, a, v, tb) = true) (h : stepI (exX E) k pc (.dup, len, a, v, tb) ls st σ = some (.inl (pc', ls', st', σ1))) (K : KKp E D A b bs (mL k) p l e R s m args below meth c QQ ws pc' ls' st' σ1) : W p l e R s m args below meth c H locs cells slots QQ (F0 m pc mls mst) := by
  obtain ⟨hd, hl, hv⟩ := vI_spec hv0
  have hl2 := hl.resolve_left (by rintro ⟨⟩)
  dsimp only [lnI] at hl2 hd
  subst hl2
  exact s_dup C S hcs hcap (fun _ _ hc kk => lv_dup C.1 C.2.1 hd hc kk) h K
theorem q_dup2 {p : Program} {l : Launch} {e : Env} {R : Room} {s : State} {m : MethodId} {args : Array Value} {below : List Frame} {meth : Method} {c : Code} {QQ : State → Prop} {D : va_G} {A : Nat → Prop} {E : EX0} {k b bs pc pc' : Nat} {ls ls' : LS0} {st st' : List Value} {σ σ1 : SH} {H : Heap} {locs : List Loc} {ws : va_W} {tys : List (ClassId × FieldType)} {mls : Array Slot} {mst : List Value} {cells slots : Nat} {len a : Nat} {v : Int32} {tb : List (Int32 × Nat)} (C : FC k p R s m args meth c A E) (S : SS E D A s σ ls st H locs ws tys mls mst (mL k)) (hcs : cells + b = σ.1.length ∧ slots + bs = slz σ.1) (hcap : σ1.1.length ≤ b + R.cells ∧ slz σ1.1 ≤ bs + R.slots) (hv0 : vI k pc (.dup2, len, a, v, tb) = true) (h : stepI (exX E) k pc (.dup2, len, a, v, tb) ls st σ = some (.inl (pc', ls', st', σ1))) (K : KKp E D A b bs (mL k) p l e R s m args below meth c QQ ws pc' ls' st' σ1) : W p l e R s m args below meth c H locs cells slots QQ (F0 m pc mls mst) := by
  obtain ⟨hd, hl, hv⟩ := vI_spec hv0
  have hl2 := hl.resolve_left (by rintro ⟨⟩)
  dsimp only [lnI] at hl2 hd
  subst hl2
  exact s_dup2 C S hcs hcap (fun _ _ _ hc1 hc2 kk => lv_dup2_11 C.1 C.2.1 hd hc1 hc2 kk) h K
theorem q_pop {p : Program} {l : Launch} {e : Env} {R : Room} {s : State} {m : MethodId} {args : Array Value} {below : List Frame} {meth : Method} {c : Code} {QQ : State → Prop} {D : va_G} {A : Nat → Prop} {E : EX0} {k b bs pc pc' : Nat} {ls ls' : LS0} {st st' : List Value} {σ σ1 : SH} {H : Heap} {locs : List Loc} {ws : va_W} {tys : List (ClassId × FieldType)} {mls : Array Slot} {mst : List Value} {cells slots : Nat} {len a : Nat} {v : Int32} {tb : List (Int32 × Nat)} (C : FC k p R s m args meth c A E) (S : SS E D A s σ ls st H locs ws tys mls mst (mL k)) (hcs : cells + b = σ.1.length ∧ slots + bs = slz σ.1) (hcap : σ1.1.length ≤ b + R.cells ∧ slz σ1.1 ≤ bs + R.slots) (hv0 : vI k pc (.pop, len, a, v, tb) = true) (h : stepI (exX E) k pc (.pop, len, a, v, tb) ls st σ = some (.inl (pc', ls', st', σ1))) (K : KKp E D A b bs (mL k) p l e R s m args below meth c QQ ws pc' ls' st' σ1) : W p l e R s m args below meth c H locs cells slots QQ (F0 m pc mls mst) := by
  obtain ⟨hd, hl, hv⟩ := vI_spec hv0
  have hl2 := hl.resolve_left (by rintro ⟨⟩)
  dsimp only [lnI] at hl2 hd
  subst hl2
  exact s_pop C S hcs hcap (fun _ _ hc kk => lv_pop C.1 C.2.1 hd hc kk) h K
theorem q_pop2 {p : Program} {l : Launch} {e : Env} {R : Room} {s : State} {m : MethodId} {args : Array Value} {below : List Frame} {meth : Method} {c : Code} {QQ : State → Prop} {D : va_G} {A : Nat → Prop} {E : EX0} {k b bs pc pc' : Nat} {ls ls' : LS0} {st st' : List Value} {σ σ1 : SH} {H : Heap} {locs : List Loc} {ws : va_W} {tys : List (ClassId × FieldType)} {mls : Array Slot} {mst : List Value} {cells slots : Nat} {len a : Nat} {v : Int32} {tb : List (Int32 × Nat)} (C : FC k p R s m args meth c A E) (S : SS E D A s σ ls st H locs ws tys mls mst (mL k)) (hcs : cells + b = σ.1.length ∧ slots + bs = slz σ.1) (hcap : σ1.1.length ≤ b + R.cells ∧ slz σ1.1 ≤ bs + R.slots) (hv0 : vI k pc (.pop2, len, a, v, tb) = true) (h : stepI (exX E) k pc (.pop2, len, a, v, tb) ls st σ = some (.inl (pc', ls', st', σ1))) (K : KKp E D A b bs (mL k) p l e R s m args below meth c QQ ws pc' ls' st' σ1) : W p l e R s m args below meth c H locs cells slots QQ (F0 m pc mls mst) := by
  obtain ⟨hd, hl, hv⟩ := vI_spec hv0
  have hl2 := hl.resolve_left (by rintro ⟨⟩)
  dsimp only [lnI] at hl2 hd
  subst hl2
  exact s_pop2 C S hcs hcap (fun _ _ hc kk => lv_pop2_2 C.1 C.2.1 hd hc kk) h K
theorem q_ifond_eq {p : Program} {l : Launch} {e : Env} {R : Room} {s : State} {m : MethodId} {args : Array Value} {below : List Frame} {meth : Method} {c : Code} {QQ : State → Prop} {D : va_G} {A : Nat → Prop} {E : EX0} {k b bs pc pc' : Nat} {ls ls' : LS0} {st st' : List Value} {σ σ1 : SH} {H : Heap} {locs : List Loc} {ws : va_W} {tys : List (ClassId × FieldType)} {mls : Array Slot} {mst : List Value} {cells slots : Nat} {o : Int} {len a : Nat} {v : Int32} {tb : List (Int32 × Nat)} (C : FC k p R s m args meth c A E) (S : SS E D A s σ ls st H locs ws tys mls mst (mL k)) (hcs : cells + b = σ.1.length ∧ slots + bs = slz σ.1) (hcap : σ1.1.length ≤ b + R.cells ∧ slz σ1.1 ≤ bs + R.slots) (hv0 : vI k pc ((.ifCond .eq o), len, a, v, tb) = true) (h : stepI (exX E) k pc ((.ifCond .eq o), len, a, v, tb) ls st σ = some (.inl (pc', ls', st', σ1))) (K : KKp E D A b bs (mL k) p l e R s m args below meth c QQ ws pc' ls' st' σ1) : W p l e R s m args below meth c H locs cells slots QQ (F0 m pc mls mst) := by
  obtain ⟨hd, hl, hv⟩ := vI_spec hv0
  have hl2 := hl.resolve_left (by rintro ⟨⟩)
  dsimp only [lnI] at hl2 hd
  subst hl2
  exact s_if_eq C S hcs hcap hd (of_decide_eq_true hv) h K
theorem q_ifond_ne {p : Program} {l : Launch} {e : Env} {R : Room} {s : State} {m : MethodId} {args : Array Value} {below : List Frame} {meth : Method} {c : Code} {QQ : State → Prop} {D : va_G} {A : Nat → Prop} {E : EX0} {k b bs pc pc' : Nat} {ls ls' : LS0} {st st' : List Value} {σ σ1 : SH} {H : Heap} {locs : List Loc} {ws : va_W} {tys : List (ClassId × FieldType)} {mls : Array Slot} {mst : List Value} {cells slots : Nat} {o : Int} {len a : Nat} {v : Int32} {tb : List (Int32 × Nat)} (C : FC k p R s m args meth c A E) (S : SS E D A s σ ls st H locs ws tys mls mst (mL k)) (hcs : cells + b = σ.1.length ∧ slots + bs = slz σ.1) (hcap : σ1.1.length ≤ b + R.cells ∧ slz σ1.1 ≤ bs + R.slots) (hv0 : vI k pc ((.ifCond .ne o), len, a, v, tb) = true) (h : stepI (exX E) k pc ((.ifCond .ne o), len, a, v, tb) ls st σ = some (.inl (pc', ls', st', σ1))) (K : KKp E D A b bs (mL k) p l e R s m args below meth c QQ ws pc' ls' st' σ1) : W p l e R s m args below meth c H locs cells slots QQ (F0 m pc mls mst) := by
  obtain ⟨hd, hl, hv⟩ := vI_spec hv0
  have hl2 := hl.resolve_left (by rintro ⟨⟩)
  dsimp only [lnI] at hl2 hd
  subst hl2
  exact s_if_ne C S hcs hcap hd (of_decide_eq_true hv) h K
theorem q_ifond_lt {p : Program} {l : Launch} {e : Env} {R : Room} {s : State} {m : MethodId} {args : Array Value} {below : List Frame} {meth : Method} {c : Code} {QQ : State → Prop} {D : va_G} {A : Nat → Prop} {E : EX0} {k b bs pc pc' : Nat} {ls ls' : LS0} {st st' : List Value} {σ σ1 : SH} {H : Heap} {locs : List Loc} {ws : va_W} {tys : List (ClassId × FieldType)} {mls : Array Slot} {mst : List Value} {cells slots : Nat} {o : Int} {len a : Nat} {v : Int32} {tb : List (Int32 × Nat)} (C : FC k p R s m args meth c A E) (S : SS E D A s σ ls st H locs ws tys mls mst (mL k)) (hcs : cells + b = σ.1.length ∧ slots + bs = slz σ.1) (hcap : σ1.1.length ≤ b + R.cells ∧ slz σ1.1 ≤ bs + R.slots) (hv0 : vI k pc ((.ifCond .lt o), len, a, v, tb) = true) (h : stepI (exX E) k pc ((.ifCond .lt o), len, a, v, tb) ls st σ = some (.inl (pc', ls', st', σ1))) (K : KKp E D A b bs (mL k) p l e R s m args below meth c QQ ws pc' ls' st' σ1) : W p l e R s m args below meth c H locs cells slots QQ (F0 m pc mls mst) := by
  obtain ⟨hd, hl, hv⟩ := vI_spec hv0
  have hl2 := hl.resolve_left (by rintro ⟨⟩)
  dsimp only [lnI] at hl2 hd
  subst hl2
  exact s_if_lt C S hcs hcap hd (of_decide_eq_true hv) h K
theorem q_ifond_ge {p : Program} {l : Launch} {e : Env} {R : Room} {s : State} {m : MethodId} {args : Array Value} {below : List Frame} {meth : Method} {c : Code} {QQ : State → Prop} {D : va_G} {A : Nat → Prop} {E : EX0} {k b bs pc pc' : Nat} {ls ls' : LS0} {st st' : List Value} {σ σ1 : SH} {H : Heap} {locs : List Loc} {ws : va_W} {tys : List (ClassId × FieldType)} {mls : Array Slot} {mst : List Value} {cells slots : Nat} {o : Int} {len a : Nat} {v : Int32} {tb : List (Int32 × Nat)} (C : FC k p R s m args meth c A E) (S : SS E D A s σ ls st H locs ws tys mls mst (mL k)) (hcs : cells + b = σ.1.length ∧ slots + bs = slz σ.1) (hcap : σ1.1.length ≤ b + R.cells ∧ slz σ1.1 ≤ bs + R.slots) (hv0 : vI k pc ((.ifCond .ge o), len, a, v, tb) = true) (h : stepI (exX E) k pc ((.ifCond .ge o), len, a, v, tb) ls st σ = some (.inl (pc', ls', st', σ1))) (K : KKp E D A b bs (mL k) p l e R s m args below meth c QQ ws pc' ls' st' σ1) : W p l e R s m args below meth c H locs cells slots QQ (F0 m pc mls mst) := by
  obtain ⟨hd, hl, hv⟩ := vI_spec hv0
  have hl2 := hl.resolve_left (by rintro ⟨⟩)
  dsimp only [lnI] at hl2 hd
  subst hl2
  exact s_if_ge C S hcs hcap hd (of_decide_eq_true hv) h K
theorem q_ifond_gt {p : Program} {l : Launch} {e : Env} {R : Room} {s : State} {m : MethodId} {args : Array Value} {below : List Frame} {meth : Method} {c : Code} {QQ : State → Prop} {D : va_G} {A : Nat → Prop} {E : EX0} {k b bs pc pc' : Nat} {ls ls' : LS0} {st st' : List Value} {σ σ1 : SH} {H : Heap} {locs : List Loc} {ws : va_W} {tys : List (ClassId × FieldType)} {mls : Array Slot} {mst : List Value} {cells slots : Nat} {o : Int} {len a : Nat} {v : Int32} {tb : List (Int32 × Nat)} (C : FC k p R s m args meth c A E) (S : SS E D A s σ ls st H locs ws tys mls mst (mL k)) (hcs : cells + b = σ.1.length ∧ slots + bs = slz σ.1) (hcap : σ1.1.length ≤ b + R.cells ∧ slz σ1.1 ≤ bs + R.slots) (hv0 : vI k pc ((.ifCond .gt o), len, a, v, tb) = true) (h : stepI (exX E) k pc ((.ifCond .gt o), len, a, v, tb) ls st σ = some (.inl (pc', ls', st', σ1))) (K : KKp E D A b bs (mL k) p l e R s m args below meth c QQ ws pc' ls' st' σ1) : W p l e R s m args below meth c H locs cells slots QQ (F0 m pc mls mst) := by
  obtain ⟨hd, hl, hv⟩ := vI_spec hv0
  have hl2 := hl.resolve_left (by rintro ⟨⟩)
  dsimp only [lnI] at hl2 hd
  subst hl2
  exact s_if_gt C S hcs hcap hd (of_decide_eq_true hv) h K
theorem q_ifond_le {p : Program} {l : Launch} {e : Env} {R : Room} {s : State} {m : MethodId} {args : Array Value} {below : List Frame} {meth : Method} {c : Code} {QQ : State → Prop} {D : va_G} {A : Nat → Prop} {E : EX0} {k b bs pc pc' : Nat} {ls ls' : LS0} {st st' : List Value} {σ σ1 : SH} {H : Heap} {locs : List Loc} {ws : va_W} {tys : List (ClassId × FieldType)} {mls : Array Slot} {mst : List Value} {cells slots : Nat} {o : Int} {len a : Nat} {v : Int32} {tb : List (Int32 × Nat)} (C : FC k p R s m args meth c A E) (S : SS E D A s σ ls st H locs ws tys mls mst (mL k)) (hcs : cells + b = σ.1.length ∧ slots + bs = slz σ.1) (hcap : σ1.1.length ≤ b + R.cells ∧ slz σ1.1 ≤ bs + R.slots) (hv0 : vI k pc ((.ifCond .le o), len, a, v, tb) = true) (h : stepI (exX E) k pc ((.ifCond .le o), len, a, v, tb) ls st σ = some (.inl (pc', ls', st', σ1))) (K : KKp E D A b bs (mL k) p l e R s m args below meth c QQ ws pc' ls' st' σ1) : W p l e R s m args below meth c H locs cells slots QQ (F0 m pc mls mst) := by
  obtain ⟨hd, hl, hv⟩ := vI_spec hv0
  have hl2 := hl.resolve_left (by rintro ⟨⟩)
  dsimp only [lnI] at hl2 hd
  subst hl2
  exact s_if_le C S hcs hcap hd (of_decide_eq_true hv) h K
theorem q_if_icmp_eq {p : Program} {l : Launch} {e : Env} {R : Room} {s : State} {m : MethodId} {args : Array Value} {below : List Frame} {meth : Method} {c : Code} {QQ : State → Prop} {D : va_G} {A : Nat → Prop} {E : EX0} {k b bs pc pc' : Nat} {ls ls' : LS0} {st st' : List Value} {σ σ1 : SH} {H : Heap} {locs : List Loc} {ws : va_W} {tys : List (ClassId × FieldType)} {mls : Array Slot} {mst : List Value} {cells slots : Nat} {o : Int} {len a : Nat} {v : Int32} {tb : List (Int32 × Nat)} (C : FC k p R s m args meth c A E) (S : SS E D A s σ ls st H locs ws tys mls mst (mL k)) (hcs : cells + b = σ.1.length ∧ slots + bs = slz σ.1) (hcap : σ1.1.length ≤ b + R.cells ∧ slz σ1.1 ≤ bs + R.slots) (hv0 : vI k pc ((.if_icmp .eq o), len, a, v, tb) = true) (h : stepI (exX E) k pc ((.if_icmp .eq o), len, a, v, tb) ls st σ = some (.inl (pc', ls', st', σ1))) (K : KKp E D A b bs (mL k) p l e R s m args below meth c QQ ws pc' ls' st' σ1) : W p l e R s m args below meth c H locs cells slots QQ (F0 m pc mls mst) := by
  obtain ⟨hd, hl, hv⟩ := vI_spec hv0
  have hl2 := hl.resolve_left (by rintro ⟨⟩)
  dsimp only [lnI] at hl2 hd
  subst hl2
  exact s_ic_eq C S hcs hcap hd (of_decide_eq_true hv) h K
theorem q_if_icmp_ne {p : Program} {l : Launch} {e : Env} {R : Room} {s : State} {m : MethodId} {args : Array Value} {below : List Frame} {meth : Method} {c : Code} {QQ : State → Prop} {D : va_G} {A : Nat → Prop} {E : EX0} {k b bs pc pc' : Nat} {ls ls' : LS0} {st st' : List Value} {σ σ1 : SH} {H : Heap} {locs : List Loc} {ws : va_W} {tys : List (ClassId × FieldType)} {mls : Array Slot} {mst : List Value} {cells slots : Nat} {o : Int} {len a : Nat} {v : Int32} {tb : List (Int32 × Nat)} (C : FC k p R s m args meth c A E) (S : SS E D A s σ ls st H locs ws tys mls mst (mL k)) (hcs : cells + b = σ.1.length ∧ slots + bs = slz σ.1) (hcap : σ1.1.length ≤ b + R.cells ∧ slz σ1.1 ≤ bs + R.slots) (hv0 : vI k pc ((.if_icmp .ne o), len, a, v, tb) = true) (h : stepI (exX E) k pc ((.if_icmp .ne o), len, a, v, tb) ls st σ = some (.inl (pc', ls', st', σ1))) (K : KKp E D A b bs (mL k) p l e R s m args below meth c QQ ws pc' ls' st' σ1) : W p l e R s m args below meth c H locs cells slots QQ (F0 m pc mls mst) := by
  obtain ⟨hd, hl, hv⟩ := vI_spec hv0
  have hl2 := hl.resolve_left (by rintro ⟨⟩)
  dsimp only [lnI] at hl2 hd
  subst hl2
  exact s_ic_ne C S hcs hcap hd (of_decide_eq_true hv) h K
theorem q_if_icmp_lt {p : Program} {l : Launch} {e : Env} {R : Room} {s : State} {m : MethodId} {args : Array Value} {below : List Frame} {meth : Method} {c : Code} {QQ : State → Prop} {D : va_G} {A : Nat → Prop} {E : EX0} {k b bs pc pc' : Nat} {ls ls' : LS0} {st st' : List Value} {σ σ1 : SH} {H : Heap} {locs : List Loc} {ws : va_W} {tys : List (ClassId × FieldType)} {mls : Array Slot} {mst : List Value} {cells slots : Nat} {o : Int} {len a : Nat} {v : Int32} {tb : List (Int32 × Nat)} (C : FC k p R s m args meth c A E) (S : SS E D A s σ ls st H locs ws tys mls mst (mL k)) (hcs : cells + b = σ.1.length ∧ slots + bs = slz σ.1) (hcap : σ1.1.length ≤ b + R.cells ∧ slz σ1.1 ≤ bs + R.slots) (hv0 : vI k pc ((.if_icmp .lt o), len, a, v, tb) = true) (h : stepI (exX E) k pc ((.if_icmp .lt o), len, a, v, tb) ls st σ = some (.inl (pc', ls', st', σ1))) (K : KKp E D A b bs (mL k) p l e R s m args below meth c QQ ws pc' ls' st' σ1) : W p l e R s m args below meth c H locs cells slots QQ (F0 m pc mls mst) := by
  obtain ⟨hd, hl, hv⟩ := vI_spec hv0
  have hl2 := hl.resolve_left (by rintro ⟨⟩)
  dsimp only [lnI] at hl2 hd
  subst hl2
  exact s_ic_lt C S hcs hcap hd (of_decide_eq_true hv) h K
theorem q_if_icmp_ge {p : Program} {l : Launch} {e : Env} {R : Room} {s : State} {m : MethodId} {args : Array Value} {below : List Frame} {meth : Method} {c : Code} {QQ : State → Prop} {D : va_G} {A : Nat → Prop} {E : EX0} {k b bs pc pc' : Nat} {ls ls' : LS0} {st st' : List Value} {σ σ1 : SH} {H : Heap} {locs : List Loc} {ws : va_W} {tys : List (ClassId × FieldType)} {mls : Array Slot} {mst : List Value} {cells slots : Nat} {o : Int} {len a : Nat} {v : Int32} {tb : List (Int32 × Nat)} (C : FC k p R s m args meth c A E) (S : SS E D A s σ ls st H locs ws tys mls mst (mL k)) (hcs : cells + b = σ.1.length ∧ slots + bs = slz σ.1) (hcap : σ1.1.length ≤ b + R.cells ∧ slz σ1.1 ≤ bs + R.slots) (hv0 : vI k pc ((.if_icmp .ge o), len, a, v, tb) = true) (h : stepI (exX E) k pc ((.if_icmp .ge o), len, a, v, tb) ls st σ = some (.inl (pc', ls', st', σ1))) (K : KKp E D A b bs (mL k) p l e R s m args below meth c QQ ws pc' ls' st' σ1) : W p l e R s m args below meth c H locs cells slots QQ (F0 m pc mls mst) := by
  obtain ⟨hd, hl, hv⟩ := vI_spec hv0
  have hl2 := hl.resolve_left (by rintro ⟨⟩)
  dsimp only [lnI] at hl2 hd
  subst hl2
  exact s_ic_ge C S hcs hcap hd (of_decide_eq_true hv) h K
theorem q_if_icmp_gt {p : Program} {l : Launch} {e : Env} {R : Room} {s : State} {m : MethodId} {args : Array Value} {below : List Frame} {meth : Method} {c : Code} {QQ : State → Prop} {D : va_G} {A : Nat → Prop} {E : EX0} {k b bs pc pc' : Nat} {ls ls' : LS0} {st st' : List Value} {σ σ1 : SH} {H : Heap} {locs : List Loc} {ws : va_W} {tys : List (ClassId × FieldType)} {mls : Array Slot} {mst : List Value} {cells slots : Nat} {o : Int} {len a : Nat} {v : Int32} {tb : List (Int32 × Nat)} (C : FC k p R s m args meth c A E) (S : SS E D A s σ ls st H locs ws tys mls mst (mL k)) (hcs : cells + b = σ.1.length ∧ slots + bs = slz σ.1) (hcap : σ1.1.length ≤ b + R.cells ∧ slz σ1.1 ≤ bs + R.slots) (hv0 : vI k pc ((.if_icmp .gt o), len, a, v, tb) = true) (h : stepI (exX E) k pc ((.if_icmp .gt o), len, a, v, tb) ls st σ = some (.inl (pc', ls', st', σ1))) (K : KKp E D A b bs (mL k) p l e R s m args below meth c QQ ws pc' ls' st' σ1) : W p l e R s m args below meth c H locs cells slots QQ (F0 m pc mls mst) := by
  obtain ⟨hd, hl, hv⟩ := vI_spec hv0
  have hl2 := hl.resolve_left (by rintro ⟨⟩)
  dsimp only [lnI] at hl2 hd
  subst hl2
  exact s_ic_gt C S hcs hcap hd (of_decide_eq_true hv) h K
theorem q_if_icmp_le {p : Program} {l : Launch} {e : Env} {R : Room} {s : State} {m : MethodId} {args : Array Value} {below : List Frame} {meth : Method} {c : Code} {QQ : State → Prop} {D : va_G} {A : Nat → Prop} {E : EX0} {k b bs pc pc' : Nat} {ls ls' : LS0} {st st' : List Value} {σ σ1 : SH} {H : Heap} {locs : List Loc} {ws : va_W} {tys : List (ClassId × FieldType)} {mls : Array Slot} {mst : List Value} {cells slots : Nat} {o : Int} {len a : Nat} {v : Int32} {tb : List (Int32 × Nat)} (C : FC k p R s m args meth c A E) (S : SS E D A s σ ls st H locs ws tys mls mst (mL k)) (hcs : cells + b = σ.1.length ∧ slots + bs = slz σ.1) (hcap : σ1.1.length ≤ b + R.cells ∧ slz σ1.1 ≤ bs + R.slots) (hv0 : vI k pc ((.if_icmp .le o), len, a, v, tb) = true) (h : stepI (exX E) k pc ((.if_icmp .le o), len, a, v, tb) ls st σ = some (.inl (pc', ls', st', σ1))) (K : KKp E D A b bs (mL k) p l e R s m args below meth c QQ ws pc' ls' st' σ1) : W p l e R s m args below meth c H locs cells slots QQ (F0 m pc mls mst) := by
  obtain ⟨hd, hl, hv⟩ := vI_spec hv0
  have hl2 := hl.resolve_left (by rintro ⟨⟩)
  dsimp only [lnI] at hl2 hd
  subst hl2
  exact s_ic_le C S hcs hcap hd (of_decide_eq_true hv) h K
theorem q_goto {p : Program} {l : Launch} {e : Env} {R : Room} {s : State} {m : MethodId} {args : Array Value} {below : List Frame} {meth : Method} {c : Code} {QQ : State → Prop} {D : va_G} {A : Nat → Prop} {E : EX0} {k b bs pc pc' : Nat} {ls ls' : LS0} {st st' : List Value} {σ σ1 : SH} {H : Heap} {locs : List Loc} {ws : va_W} {tys : List (ClassId × FieldType)} {mls : Array Slot} {mst : List Value} {cells slots : Nat} {o : Int} {len a : Nat} {v : Int32} {tb : List (Int32 × Nat)} (C : FC k p R s m args meth c A E) (S : SS E D A s σ ls st H locs ws tys mls mst (mL k)) (hcs : cells + b = σ.1.length ∧ slots + bs = slz σ.1) (hcap : σ1.1.length ≤ b + R.cells ∧ slz σ1.1 ≤ bs + R.slots) (hv0 : vI k pc ((.goto o), len, a, v, tb) = true) (h : stepI (exX E) k pc ((.goto o), len, a, v, tb) ls st σ = some (.inl (pc', ls', st', σ1))) (K : KKp E D A b bs (mL k) p l e R s m args below meth c QQ ws pc' ls' st' σ1) : W p l e R s m args below meth c H locs cells slots QQ (F0 m pc mls mst) := by
  obtain ⟨hd, hl, hv⟩ := vI_spec hv0
  have hl2 := hl.resolve_left (by rintro ⟨⟩)
  dsimp only [lnI] at hl2 hd
  subst hl2
  exact s_goto C S hcs hcap (fun kk => lv_goto C.1 C.2.1 hd (of_decide_eq_true hv) kk) h K
theorem q_arraylength {p : Program} {l : Launch} {e : Env} {R : Room} {s : State} {m : MethodId} {args : Array Value} {below : List Frame} {meth : Method} {c : Code} {QQ : State → Prop} {D : va_G} {A : Nat → Prop} {E : EX0} {k b bs pc pc' : Nat} {ls ls' : LS0} {st st' : List Value} {σ σ1 : SH} {H : Heap} {locs : List Loc} {ws : va_W} {tys : List (ClassId × FieldType)} {mls : Array Slot} {mst : List Value} {cells slots : Nat} {len a : Nat} {v : Int32} {tb : List (Int32 × Nat)} (C : FC k p R s m args meth c A E) (S : SS E D A s σ ls st H locs ws tys mls mst (mL k)) (hcs : cells + b = σ.1.length ∧ slots + bs = slz σ.1) (hcap : σ1.1.length ≤ b + R.cells ∧ slz σ1.1 ≤ bs + R.slots) (hv0 : vI k pc (.arraylength, len, a, v, tb) = true) (h : stepI (exX E) k pc (.arraylength, len, a, v, tb) ls st σ = some (.inl (pc', ls', st', σ1))) (K : KKp E D A b bs (mL k) p l e R s m args below meth c QQ ws pc' ls' st' σ1) : W p l e R s m args below meth c H locs cells slots QQ (F0 m pc mls mst) := by
  obtain ⟨hd, hl, hv⟩ := vI_spec hv0
  have hl2 := hl.resolve_left (by rintro ⟨⟩)
  dsimp only [lnI] at hl2 hd
  subst hl2
  exact s_len C S hcs hcap hd h K
theorem q_iaload {p : Program} {l : Launch} {e : Env} {R : Room} {s : State} {m : MethodId} {args : Array Value} {below : List Frame} {meth : Method} {c : Code} {QQ : State → Prop} {D : va_G} {A : Nat → Prop} {E : EX0} {k b bs pc pc' : Nat} {ls ls' : LS0} {st st' : List Value} {σ σ1 : SH} {H : Heap} {locs : List Loc} {ws : va_W} {tys : List (ClassId × FieldType)} {mls : Array Slot} {mst : List Value} {cells slots : Nat} {len a : Nat} {v : Int32} {tb : List (Int32 × Nat)} (C : FC k p R s m args meth c A E) (S : SS E D A s σ ls st H locs ws tys mls mst (mL k)) (hcs : cells + b = σ.1.length ∧ slots + bs = slz σ.1) (hcap : σ1.1.length ≤ b + R.cells ∧ slz σ1.1 ≤ bs + R.slots) (hv0 : vI k pc (.iaload, len, a, v, tb) = true) (h : stepI (exX E) k pc (.iaload, len, a, v, tb) ls st σ = some (.inl (pc', ls', st', σ1))) (K : KKp E D A b bs (mL k) p l e R s m args below meth c QQ ws pc' ls' st' σ1) : W p l e R s m args below meth c H locs cells slots QQ (F0 m pc mls mst) := by
  obtain ⟨hd, hl, hv⟩ := vI_spec hv0
  have hl2 := hl.resolve_left (by rintro ⟨⟩)
  dsimp only [lnI] at hl2 hd
  subst hl2
  exact s_iald C S hcs hcap hd h K
theorem q_iastore {p : Program} {l : Launch} {e : Env} {R : Room} {s : State} {m : MethodId} {args : Array Value} {below : List Frame} {meth : Method} {c : Code} {QQ : State → Prop} {D : va_G} {A : Nat → Prop} {E : EX0} {k b bs pc pc' : Nat} {ls ls' : LS0} {st st' : List Value} {σ σ1 : SH} {H : Heap} {locs : List Loc} {ws : va_W} {tys : List (ClassId × FieldType)} {mls : Array Slot} {mst : List Value} {cells slots : Nat} {len a : Nat} {v : Int32} {tb : List (Int32 × Nat)} (C : FC k p R s m args meth c A E) (S : SS E D A s σ ls st H locs ws tys mls mst (mL k)) (hcs : cells + b = σ.1.length ∧ slots + bs = slz σ.1) (hcap : σ1.1.length ≤ b + R.cells ∧ slz σ1.1 ≤ bs + R.slots) (hv0 : vI k pc (.iastore, len, a, v, tb) = true) (h : stepI (exX E) k pc (.iastore, len, a, v, tb) ls st σ = some (.inl (pc', ls', st', σ1))) (K : KKp E D A b bs (mL k) p l e R s m args below meth c QQ ws pc' ls' st' σ1) : W p l e R s m args below meth c H locs cells slots QQ (F0 m pc mls mst) := by
  obtain ⟨hd, hl, hv⟩ := vI_spec hv0
  have hl2 := hl.resolve_left (by rintro ⟨⟩)
  dsimp only [lnI] at hl2 hd
  subst hl2
  exact s_iast C S hcs hcap hd h K
theorem q_laload {p : Program} {l : Launch} {e : Env} {R : Room} {s : State} {m : MethodId} {args : Array Value} {below : List Frame} {meth : Method} {c : Code} {QQ : State → Prop} {D : va_G} {A : Nat → Prop} {E : EX0} {k b bs pc pc' : Nat} {ls ls' : LS0} {st st' : List Value} {σ σ1 : SH} {H : Heap} {locs : List Loc} {ws : va_W} {tys : List (ClassId × FieldType)} {mls : Array Slot} {mst : List Value} {cells slots : Nat} {len a : Nat} {v : Int32} {tb : List (Int32 × Nat)} (C : FC k p R s m args meth c A E) (S : SS E D A s σ ls st H locs ws tys mls mst (mL k)) (hcs : cells + b = σ.1.length ∧ slots + bs = slz σ.1) (hcap : σ1.1.length ≤ b + R.cells ∧ slz σ1.1 ≤ bs + R.slots) (hv0 : vI k pc (.laload, len, a, v, tb) = true) (h : stepI (exX E) k pc (.laload, len, a, v, tb) ls st σ = some (.inl (pc', ls', st', σ1))) (K : KKp E D A b bs (mL k) p l e R s m args below meth c QQ ws pc' ls' st' σ1) : W p l e R s m args below meth c H locs cells slots QQ (F0 m pc mls mst) := by
  obtain ⟨hd, hl, hv⟩ := vI_spec hv0
  have hl2 := hl.resolve_left (by rintro ⟨⟩)
  dsimp only [lnI] at hl2 hd
  subst hl2
  exact s_lald C S hcs hcap hd h K
theorem q_lastore {p : Program} {l : Launch} {e : Env} {R : Room} {s : State} {m : MethodId} {args : Array Value} {below : List Frame} {meth : Method} {c : Code} {QQ : State → Prop} {D : va_G} {A : Nat → Prop} {E : EX0} {k b bs pc pc' : Nat} {ls ls' : LS0} {st st' : List Value} {σ σ1 : SH} {H : Heap} {locs : List Loc} {ws : va_W} {tys : List (ClassId × FieldType)} {mls : Array Slot} {mst : List Value} {cells slots : Nat} {len a : Nat} {v : Int32} {tb : List (Int32 × Nat)} (C : FC k p R s m args meth c A E) (S : SS E D A s σ ls st H locs ws tys mls mst (mL k)) (hcs : cells + b = σ.1.length ∧ slots + bs = slz σ.1) (hcap : σ1.1.length ≤ b + R.cells ∧ slz σ1.1 ≤ bs + R.slots) (hv0 : vI k pc (.lastore, len, a, v, tb) = true) (h : stepI (exX E) k pc (.lastore, len, a, v, tb) ls st σ = some (.inl (pc', ls', st', σ1))) (K : KKp E D A b bs (mL k) p l e R s m args below meth c QQ ws pc' ls' st' σ1) : W p l e R s m args below meth c H locs cells slots QQ (F0 m pc mls mst) := by
  obtain ⟨hd, hl, hv⟩ := vI_spec hv0
  have hl2 := hl.resolve_left (by rintro ⟨⟩)
  dsimp only [lnI] at hl2 hd
  subst hl2
  exact s_last C S hcs hcap hd h K
theorem q_newarray_int {p : Program} {l : Launch} {e : Env} {R : Room} {s : State} {m : MethodId} {args : Array Value} {below : List Frame} {meth : Method} {c : Code} {QQ : State → Prop} {D : va_G} {A : Nat → Prop} {E : EX0} {k b bs pc pc' : Nat} {ls ls' : LS0} {st st' : List Value} {σ σ1 : SH} {H : Heap} {locs : List Loc} {ws : va_W} {tys : List (ClassId × FieldType)} {mls : Array Slot} {mst : List Value} {cells slots : Nat} {len a : Nat} {v : Int32} {tb : List (Int32 × Nat)} (C : FC k p R s m args meth c A E) (S : SS E D A s σ ls st H locs ws tys mls mst (mL k)) (hcs : cells + b = σ.1.length ∧ slots + bs = slz σ.1) (hcap : σ1.1.length ≤ b + R.cells ∧ slz σ1.1 ≤ bs + R.slots) (hv0 : vI k pc ((.newarray .int), len, a, v, tb) = true) (h : stepI (exX E) k pc ((.newarray .int), len, a, v, tb) ls st σ = some (.inl (pc', ls', st', σ1))) (K : KKp E D A b bs (mL k) p l e R s m args below meth c QQ ws pc' ls' st' σ1) : W p l e R s m args below meth c H locs cells slots QQ (F0 m pc mls mst) := by
  obtain ⟨hd, hl, hv⟩ := vI_spec hv0
  have hl2 := hl.resolve_left (by rintro ⟨⟩)
  dsimp only [lnI] at hl2 hd
  subst hl2
  exact s_nai C S hcs hcap hd h K
theorem q_newarray_long {p : Program} {l : Launch} {e : Env} {R : Room} {s : State} {m : MethodId} {args : Array Value} {below : List Frame} {meth : Method} {c : Code} {QQ : State → Prop} {D : va_G} {A : Nat → Prop} {E : EX0} {k b bs pc pc' : Nat} {ls ls' : LS0} {st st' : List Value} {σ σ1 : SH} {H : Heap} {locs : List Loc} {ws : va_W} {tys : List (ClassId × FieldType)} {mls : Array Slot} {mst : List Value} {cells slots : Nat} {len a : Nat} {v : Int32} {tb : List (Int32 × Nat)} (C : FC k p R s m args meth c A E) (S : SS E D A s σ ls st H locs ws tys mls mst (mL k)) (hcs : cells + b = σ.1.length ∧ slots + bs = slz σ.1) (hcap : σ1.1.length ≤ b + R.cells ∧ slz σ1.1 ≤ bs + R.slots) (hv0 : vI k pc ((.newarray .long), len, a, v, tb) = true) (h : stepI (exX E) k pc ((.newarray .long), len, a, v, tb) ls st σ = some (.inl (pc', ls', st', σ1))) (K : KKp E D A b bs (mL k) p l e R s m args below meth c QQ ws pc' ls' st' σ1) : W p l e R s m args below meth c H locs cells slots QQ (F0 m pc mls mst) := by
  obtain ⟨hd, hl, hv⟩ := vI_spec hv0
  have hl2 := hl.resolve_left (by rintro ⟨⟩)
  dsimp only [lnI] at hl2 hd
  subst hl2
  exact s_nal C S hcs hcap hd h K
theorem q_ldc2_w {p : Program} {l : Launch} {e : Env} {R : Room} {s : State} {m : MethodId} {args : Array Value} {below : List Frame} {meth : Method} {c : Code} {QQ : State → Prop} {D : va_G} {A : Nat → Prop} {E : EX0} {k b bs pc pc' : Nat} {ls ls' : LS0} {st st' : List Value} {σ σ1 : SH} {H : Heap} {locs : List Loc} {ws : va_W} {tys : List (ClassId × FieldType)} {mls : Array Slot} {mst : List Value} {cells slots : Nat} {n : Nat} {len a : Nat} {v : Int32} {tb : List (Int32 × Nat)} (C : FC k p R s m args meth c A E) (S : SS E D A s σ ls st H locs ws tys mls mst (mL k)) (hcs : cells + b = σ.1.length ∧ slots + bs = slz σ.1) (hcap : σ1.1.length ≤ b + R.cells ∧ slz σ1.1 ≤ bs + R.slots) (hv0 : vI k pc ((.ldc2_w n), len, a, v, tb) = true) (h : stepI (exX E) k pc ((.ldc2_w n), len, a, v, tb) ls st σ = some (.inl (pc', ls', st', σ1))) (K : KKp E D A b bs (mL k) p l e R s m args below meth c QQ ws pc' ls' st' σ1) : W p l e R s m args below meth c H locs cells slots QQ (F0 m pc mls mst) := by
  obtain ⟨hd, hl, hv⟩ := vI_spec hv0
  have hl2 := hl.resolve_left (by rintro ⟨⟩)
  dsimp only [lnI] at hl2 hd
  subst hl2
  simp only [stepI] at h
  simp only [vL] at hv
  split at h
  · rename_i e0 he
    rw [he] at hv
    simp only [Bool.and_eq_true] at hv
    have e1 := Nat.eq_of_beq_eq_true hv.1
    have e2 := Nat.eq_of_beq_eq_true hv.2
    have hw := kll_at he
    rw [e1, e2] at hw
    exact s_push C S hcs hcap (v := .long e0.2.2) (w := .long e0.2.2) rfl (fun _ kk => lv_ldc2 C.1 C.2.1 C.2.2.2.1 (C.2.2.2.2.1 _ hw) hd kk) h K
  · cases h
theorem q_tableswitch {p : Program} {l : Launch} {e : Env} {R : Room} {s : State} {m : MethodId} {args : Array Value} {below : List Frame} {meth : Method} {c : Code} {QQ : State → Prop} {D : va_G} {A : Nat → Prop} {E : EX0} {k b bs pc pc' : Nat} {ls ls' : LS0} {st st' : List Value} {σ σ1 : SH} {H : Heap} {locs : List Loc} {ws : va_W} {tys : List (ClassId × FieldType)} {mls : Array Slot} {mst : List Value} {cells slots : Nat} {d lo hi : Int} {os : Array Int} {len a : Nat} {v : Int32} {tb : List (Int32 × Nat)} (C : FC k p R s m args meth c A E) (S : SS E D A s σ ls st H locs ws tys mls mst (mL k)) (hcs : cells + b = σ.1.length ∧ slots + bs = slz σ.1) (hcap : σ1.1.length ≤ b + R.cells ∧ slz σ1.1 ≤ bs + R.slots) (hv0 : vI k pc ((.tableswitch d lo hi os), len, a, v, tb) = true) (h : stepI (exX E) k pc ((.tableswitch d lo hi os), len, a, v, tb) ls st σ = some (.inl (pc', ls', st', σ1))) (K : KKp E D A b bs (mL k) p l e R s m args below meth c QQ ws pc' ls' st' σ1) : W p l e R s m args below meth c H locs cells slots QQ (F0 m pc mls mst) := by
  obtain ⟨hd, hl, hv⟩ := vI_spec hv0
  dsimp only at hd
  simp only [vL, Bool.and_eq_true, decide_eq_true_eq] at hv
  exact s_sw C S hcs hcap hd ⟨hv.1.1.1.1, hv.1.1.1.2, hv.1.1.2, hv.1.2, hv.2⟩ h K
theorem q_getfield {p : Program} {l : Launch} {e : Env} {R : Room} {s : State} {m : MethodId} {args : Array Value} {below : List Frame} {meth : Method} {c : Code} {QQ : State → Prop} {D : va_G} {A : Nat → Prop} {E : EX0} {k b bs pc pc' : Nat} {ls ls' : LS0} {st st' : List Value} {σ σ1 : SH} {H : Heap} {locs : List Loc} {ws : va_W} {tys : List (ClassId × FieldType)} {mls : Array Slot} {mst : List Value} {cells slots : Nat} {i : Nat} {len a : Nat} {v : Int32} {tb : List (Int32 × Nat)} (C : FC k p R s m args meth c A E) (S : SS E D A s σ ls st H locs ws tys mls mst (mL k)) (hcs : cells + b = σ.1.length ∧ slots + bs = slz σ.1) (hcap : σ1.1.length ≤ b + R.cells ∧ slz σ1.1 ≤ bs + R.slots) (hv0 : vI k pc ((.getfield i), len, a, v, tb) = true) (h : stepI (exX E) k pc ((.getfield i), len, a, v, tb) ls st σ = some (.inl (pc', ls', st', σ1))) (K : KKp E D A b bs (mL k) p l e R s m args below meth c QQ ws pc' ls' st' σ1) : W p l e R s m args below meth c H locs cells slots QQ (F0 m pc mls mst) := by
  obtain ⟨hd, hl, hv⟩ := vI_spec hv0
  have hl2 := hl.resolve_left (by rintro ⟨⟩)
  dsimp only [lnI] at hl2 hd
  subst hl2
  simp only [stepI] at h
  simp only [vL] at hv
  split at h
  · rename_i e0 he
    obtain ⟨o0, i0, ci, j⟩ := e0
    rw [he] at hv
    simp only [Bool.and_eq_true, decide_eq_true_eq] at hv
    have e1 := Nat.eq_of_beq_eq_true hv.1.1
    have e2 := Nat.eq_of_beq_eq_true hv.1.2
    dsimp only at e1 e2 hv h
    subst e2
    exact s_gf C S hcs hcap hd he e1 hv.2 h K
  · cases h
theorem q_putfield {p : Program} {l : Launch} {e : Env} {R : Room} {s : State} {m : MethodId} {args : Array Value} {below : List Frame} {meth : Method} {c : Code} {QQ : State → Prop} {D : va_G} {A : Nat → Prop} {E : EX0} {k b bs pc pc' : Nat} {ls ls' : LS0} {st st' : List Value} {σ σ1 : SH} {H : Heap} {locs : List Loc} {ws : va_W} {tys : List (ClassId × FieldType)} {mls : Array Slot} {mst : List Value} {cells slots : Nat} {i : Nat} {len a : Nat} {v : Int32} {tb : List (Int32 × Nat)} (C : FC k p R s m args meth c A E) (S : SS E D A s σ ls st H locs ws tys mls mst (mL k)) (hcs : cells + b = σ.1.length ∧ slots + bs = slz σ.1) (hcap : σ1.1.length ≤ b + R.cells ∧ slz σ1.1 ≤ bs + R.slots) (hv0 : vI k pc ((.putfield i), len, a, v, tb) = true) (h : stepI (exX E) k pc ((.putfield i), len, a, v, tb) ls st σ = some (.inl (pc', ls', st', σ1))) (K : KKp E D A b bs (mL k) p l e R s m args below meth c QQ ws pc' ls' st' σ1) : W p l e R s m args below meth c H locs cells slots QQ (F0 m pc mls mst) := by
  obtain ⟨hd, hl, hv⟩ := vI_spec hv0
  have hl2 := hl.resolve_left (by rintro ⟨⟩)
  dsimp only [lnI] at hl2 hd
  subst hl2
  simp only [stepI] at h
  simp only [vL] at hv
  split at h
  · rename_i e0 he
    obtain ⟨o0, i0, ci, j⟩ := e0
    rw [he] at hv
    simp only [Bool.and_eq_true, decide_eq_true_eq] at hv
    have e1 := Nat.eq_of_beq_eq_true hv.1.1.1
    have e2 := Nat.eq_of_beq_eq_true hv.1.1.2
    dsimp only at e1 e2 hv h
    subst e2
    exact s_pf C S hcs hcap hd he e1 hv.1.2 (by simpa using hv.2) h K
  · cases h
theorem q_getstatic {p : Program} {l : Launch} {e : Env} {R : Room} {s : State} {m : MethodId} {args : Array Value} {below : List Frame} {meth : Method} {c : Code} {QQ : State → Prop} {D : va_G} {A : Nat → Prop} {E : EX0} {k b bs pc pc' : Nat} {ls ls' : LS0} {st st' : List Value} {σ σ1 : SH} {H : Heap} {locs : List Loc} {ws : va_W} {tys : List (ClassId × FieldType)} {mls : Array Slot} {mst : List Value} {cells slots : Nat} {i : Nat} {len a : Nat} {v : Int32} {tb : List (Int32 × Nat)} (C : FC k p R s m args meth c A E) (S : SS E D A s σ ls st H locs ws tys mls mst (mL k)) (hcs : cells + b = σ.1.length ∧ slots + bs = slz σ.1) (hcap : σ1.1.length ≤ b + R.cells ∧ slz σ1.1 ≤ bs + R.slots) (hv0 : vI k pc ((.getstatic i), len, a, v, tb) = true) (h : stepI (exX E) k pc ((.getstatic i), len, a, v, tb) ls st σ = some (.inl (pc', ls', st', σ1))) (K : KKp E D A b bs (mL k) p l e R s m args below meth c QQ ws pc' ls' st' σ1) : W p l e R s m args below meth c H locs cells slots QQ (F0 m pc mls mst) := by
  obtain ⟨hd, hl, hv⟩ := vI_spec hv0
  have hl2 := hl.resolve_left (by rintro ⟨⟩)
  dsimp only [lnI] at hl2 hd
  subst hl2
  simp only [vL, Bool.and_eq_true, Bool.or_eq_true] at hv
  have e1 := Nat.eq_of_beq_eq_true hv.1
  have hown := C.2.2.2.1
  rw [e1] at hown
  rcases hv.2 with g | g
  · have e2 := Nat.eq_of_beq_eq_true g.1
    have e3 := Nat.eq_of_beq_eq_true g.2
    subst e2; subst e3
    obtain ⟨e0, he, hz⟩ := C.2.2.2.2.2.2.2.2.1.2 0 (by decide)
    exact s_push C S hcs hcap (v := .ref (4096 + 0)) (w := .ref e0.1) ⟨e0.1, rfl, by rw [if_neg (by decide)]; exact ⟨e0, he, rfl⟩⟩ (fun _ kk => va_gets C.1 C.2.1 hz S.2.2.2.1 hown (C.2.2.2.2.1 _ sl_0) (fun _ q => q) hd kk) h K
  · have e2 := Nat.eq_of_beq_eq_true g.1
    have e3 := Nat.eq_of_beq_eq_true g.2
    subst e2; subst e3
    obtain ⟨e0, he, hz⟩ := C.2.2.2.2.2.2.2.2.1.2 1 (by decide)
    exact s_push C S hcs hcap (v := .ref (4096 + 1)) (w := .ref e0.1) ⟨e0.1, rfl, by rw [if_neg (by decide)]; exact ⟨e0, he, rfl⟩⟩ (fun _ kk => va_gets C.1 C.2.1 hz S.2.2.2.1 hown (C.2.2.2.2.1 _ sl_1) (fun _ q => q) hd kk) h K
theorem q_new {p : Program} {l : Launch} {e : Env} {R : Room} {s : State} {m : MethodId} {args : Array Value} {below : List Frame} {meth : Method} {c : Code} {QQ : State → Prop} {D : va_G} {A : Nat → Prop} {E : EX0} {k b bs pc pc' : Nat} {ls ls' : LS0} {st st' : List Value} {σ σ1 : SH} {H : Heap} {locs : List Loc} {ws : va_W} {tys : List (ClassId × FieldType)} {mls : Array Slot} {mst : List Value} {cells slots : Nat} {i : Nat} {len a : Nat} {v : Int32} {tb : List (Int32 × Nat)} (C : FC k p R s m args meth c A E) (S : SS E D A s σ ls st H locs ws tys mls mst (mL k)) (hcs : cells + b = σ.1.length ∧ slots + bs = slz σ.1) (hcap : σ1.1.length ≤ b + R.cells ∧ slz σ1.1 ≤ bs + R.slots) (hv0 : vI k pc ((.new i), len, a, v, tb) = true) (h : stepI (exX E) k pc ((.new i), len, a, v, tb) ls st σ = some (.inl (pc', ls', st', σ1))) (K : KKp E D A b bs (mL k) p l e R s m args below meth c QQ ws pc' ls' st' σ1) : W p l e R s m args below meth c H locs cells slots QQ (F0 m pc mls mst) := by
  obtain ⟨hd, hl, hv⟩ := vI_spec hv0
  have hl2 := hl.resolve_left (by rintro ⟨⟩)
  dsimp only [lnI] at hl2 hd
  subst hl2
  simp only [stepI] at h
  simp only [vL] at hv
  split at h
  · rename_i e0 he
    obtain ⟨o0, i0, ci⟩ := e0
    rw [he] at hv
    simp only [Bool.and_eq_true] at hv
    have e1 := Nat.eq_of_beq_eq_true hv.1
    have e2 := Nat.eq_of_beq_eq_true hv.2
    dsimp only at e1 e2 h
    subst e2
    exact s_new C S hcs hcap hd he e1 (of_decide_eq_true (List.all_eq_true.mp cl_ci _ (List.mem_of_getElem? he))) h K
  · cases h
theorem q_invokestatic {p : Program} {l : Launch} {e : Env} {R : Room} {s : State} {m : MethodId} {args : Array Value} {below : List Frame} {meth : Method} {c : Code} {QQ : State → Prop} {D : va_G} {A : Nat → Prop} {E : EX0} {k b bs pc pc' : Nat} {ls ls' : LS0} {st st' : List Value} {σ σ1 : SH} {H : Heap} {locs : List Loc} {ws : va_W} {tys : List (ClassId × FieldType)} {mls : Array Slot} {mst : List Value} {cells slots : Nat} {i : Nat} {len a : Nat} {v : Int32} {tb : List (Int32 × Nat)} (C : FC k p R s m args meth c A E) (S : SS E D A s σ ls st H locs ws tys mls mst (mL k)) (hcs : cells + b = σ.1.length ∧ slots + bs = slz σ.1) (hcap : σ1.1.length ≤ b + R.cells ∧ slz σ1.1 ≤ bs + R.slots) (hv0 : vI k pc ((.invokestatic i), len, a, v, tb) = true) (h : stepI (exX E) k pc ((.invokestatic i), len, a, v, tb) ls st σ = some (.inl (pc', ls', st', σ1))) (K : KKp E D A b bs (mL k) p l e R s m args below meth c QQ ws pc' ls' st' σ1) : W p l e R s m args below meth c H locs cells slots QQ (F0 m pc mls mst) := by
  obtain ⟨hd, hl, hv⟩ := vI_spec hv0
  have hl2 := hl.resolve_left (by rintro ⟨⟩)
  dsimp only [lnI] at hl2 hd
  subst hl2
  simp only [stepI] at h
  simp only [vL] at hv
  split at h
  · rename_i o0 i0 j0 n0 he
    rw [he] at hv
    simp only [Bool.and_eq_true] at hv
    have e1 := Nat.eq_of_beq_eq_true hv.1.1
    have e2 := Nat.eq_of_beq_eq_true hv.1.2
    subst e2
    have h1k : 1 ≤ mK k := by
      have g := hv.2
      rw [if_neg (by decide)] at g
      simp only [Bool.and_eq_true, decide_eq_true_eq] at g
      exact g.2
    exact s_cpy C S hcs hcap hd he e1 h1k h K
  · rename_i o0 i0 j0 n0 he
    rw [he] at hv
    simp only [Bool.and_eq_true] at hv
    have e1 := Nat.eq_of_beq_eq_true hv.1.1
    have e2 := Nat.eq_of_beq_eq_true hv.1.2
    subst e2
    have h1k : 1 ≤ mK k := by
      have g := hv.2
      rw [if_neg (by decide)] at g
      simp only [Bool.and_eq_true, decide_eq_true_eq] at g
      exact g.2
    exact s_max C S hcs hcap hd he e1 h1k h K
  · rename_i o0 i0 j0 n0 he
    rw [he] at hv
    simp only [Bool.and_eq_true] at hv
    have e1 := Nat.eq_of_beq_eq_true hv.1.1
    have e2 := Nat.eq_of_beq_eq_true hv.1.2
    subst e2
    have h1k : 1 ≤ mK k := by
      have g := hv.2
      rw [if_neg (by decide)] at g
      simp only [Bool.and_eq_true, decide_eq_true_eq] at g
      exact g.2
    exact s_min C S hcs hcap hd he e1 h1k h K
  · unfold oCS at h
    split at h
    · split at h <;> cases h
    · cases h
  · cases h
theorem q_invokespecial {p : Program} {l : Launch} {e : Env} {R : Room} {s : State} {m : MethodId} {args : Array Value} {below : List Frame} {meth : Method} {c : Code} {QQ : State → Prop} {D : va_G} {A : Nat → Prop} {E : EX0} {k b bs pc pc' : Nat} {ls ls' : LS0} {st st' : List Value} {σ σ1 : SH} {H : Heap} {locs : List Loc} {ws : va_W} {tys : List (ClassId × FieldType)} {mls : Array Slot} {mst : List Value} {cells slots : Nat} {i : Nat} {len a : Nat} {v : Int32} {tb : List (Int32 × Nat)} (C : FC k p R s m args meth c A E) (S : SS E D A s σ ls st H locs ws tys mls mst (mL k)) (hcs : cells + b = σ.1.length ∧ slots + bs = slz σ.1) (hcap : σ1.1.length ≤ b + R.cells ∧ slz σ1.1 ≤ bs + R.slots) (hv0 : vI k pc ((.invokespecial i), len, a, v, tb) = true) (h : stepI (exX E) k pc ((.invokespecial i), len, a, v, tb) ls st σ = some (.inl (pc', ls', st', σ1))) (K : KKp E D A b bs (mL k) p l e R s m args below meth c QQ ws pc' ls' st' σ1) : W p l e R s m args below meth c H locs cells slots QQ (F0 m pc mls mst) := by
  obtain ⟨hd, hl, hv⟩ := vI_spec hv0
  have hl2 := hl.resolve_left (by rintro ⟨⟩)
  dsimp only [lnI] at hl2 hd
  subst hl2
  simp only [stepI] at h
  simp only [vL] at hv
  split at h
  · rename_i o0 i0 j0 n0 he
    rw [he] at hv
    simp only [Bool.and_eq_true] at hv
    have e1 := Nat.eq_of_beq_eq_true hv.1.1
    have e2 := Nat.eq_of_beq_eq_true hv.1.2
    subst e2
    have h1k : 1 ≤ mK k := by
      have g := hv.2
      rw [if_neg (by decide)] at g
      simp only [Bool.and_eq_true, decide_eq_true_eq] at g
      exact g.2
    exact s_oi C S hcs hcap hd he e1 h1k h K
  · unfold oCV at h
    split at h
    · split at h <;> cases h
    · cases h
  · cases h
theorem q_invokevirtual {p : Program} {l : Launch} {e : Env} {R : Room} {s : State} {m : MethodId} {args : Array Value} {below : List Frame} {meth : Method} {c : Code} {QQ : State → Prop} {D : va_G} {A : Nat → Prop} {E : EX0} {k b bs pc pc' : Nat} {ls ls' : LS0} {st st' : List Value} {σ σ1 : SH} {H : Heap} {locs : List Loc} {ws : va_W} {tys : List (ClassId × FieldType)} {mls : Array Slot} {mst : List Value} {cells slots : Nat} {i : Nat} {len a : Nat} {v : Int32} {tb : List (Int32 × Nat)} (C : FC k p R s m args meth c A E) (S : SS E D A s σ ls st H locs ws tys mls mst (mL k)) (hcs : cells + b = σ.1.length ∧ slots + bs = slz σ.1) (hcap : σ1.1.length ≤ b + R.cells ∧ slz σ1.1 ≤ bs + R.slots) (hv0 : vI k pc ((.invokevirtual i), len, a, v, tb) = true) (h : stepI (exX E) k pc ((.invokevirtual i), len, a, v, tb) ls st σ = some (.inl (pc', ls', st', σ1))) (K : KKp E D A b bs (mL k) p l e R s m args below meth c QQ ws pc' ls' st' σ1) : W p l e R s m args below meth c H locs cells slots QQ (F0 m pc mls mst) := by
  obtain ⟨hd, hl, hv⟩ := vI_spec hv0
  have hl2 := hl.resolve_left (by rintro ⟨⟩)
  dsimp only [lnI] at hl2 hd
  subst hl2
  simp only [stepI] at h
  split at h
  · unfold oCV at h
    split at h
    · split at h <;> cases h
    · cases h
  · cases h
theorem q_ireturn {p : Program} {l : Launch} {e : Env} {R : Room} {s : State} {m : MethodId} {args : Array Value} {below : List Frame} {meth : Method} {c : Code} {QQ : State → Prop} {D : va_G} {A : Nat → Prop} {E : EX0} {k b bs pc pc' : Nat} {ls ls' : LS0} {st st' : List Value} {σ σ1 : SH} {H : Heap} {locs : List Loc} {ws : va_W} {tys : List (ClassId × FieldType)} {mls : Array Slot} {mst : List Value} {cells slots : Nat} {len a : Nat} {v : Int32} {tb : List (Int32 × Nat)} (C : FC k p R s m args meth c A E) (S : SS E D A s σ ls st H locs ws tys mls mst (mL k)) (hcs : cells + b = σ.1.length ∧ slots + bs = slz σ.1) (hcap : σ1.1.length ≤ b + R.cells ∧ slz σ1.1 ≤ bs + R.slots) (hv0 : vI k pc (.ireturn, len, a, v, tb) = true) (h : stepI (exX E) k pc (.ireturn, len, a, v, tb) ls st σ = some (.inl (pc', ls', st', σ1))) (K : KKp E D A b bs (mL k) p l e R s m args below meth c QQ ws pc' ls' st' σ1) : W p l e R s m args below meth c H locs cells slots QQ (F0 m pc mls mst) := by
  obtain ⟨hd, hl, hv⟩ := vI_spec hv0
  have hl2 := hl.resolve_left (by rintro ⟨⟩)
  dsimp only [lnI] at hl2 hd
  subst hl2
  simp only [stepI] at h
  split at h <;> first | cases h | (unfold oIret at h; split at h <;> cases h) | (unfold oLret at h; split at h <;> cases h) | (unfold oVret at h; split at h <;> cases h) | (unfold oZret at h; split at h; (split at h <;> cases h); cases h)
theorem q_lreturn {p : Program} {l : Launch} {e : Env} {R : Room} {s : State} {m : MethodId} {args : Array Value} {below : List Frame} {meth : Method} {c : Code} {QQ : State → Prop} {D : va_G} {A : Nat → Prop} {E : EX0} {k b bs pc pc' : Nat} {ls ls' : LS0} {st st' : List Value} {σ σ1 : SH} {H : Heap} {locs : List Loc} {ws : va_W} {tys : List (ClassId × FieldType)} {mls : Array Slot} {mst : List Value} {cells slots : Nat} {len a : Nat} {v : Int32} {tb : List (Int32 × Nat)} (C : FC k p R s m args meth c A E) (S : SS E D A s σ ls st H locs ws tys mls mst (mL k)) (hcs : cells + b = σ.1.length ∧ slots + bs = slz σ.1) (hcap : σ1.1.length ≤ b + R.cells ∧ slz σ1.1 ≤ bs + R.slots) (hv0 : vI k pc (.lreturn, len, a, v, tb) = true) (h : stepI (exX E) k pc (.lreturn, len, a, v, tb) ls st σ = some (.inl (pc', ls', st', σ1))) (K : KKp E D A b bs (mL k) p l e R s m args below meth c QQ ws pc' ls' st' σ1) : W p l e R s m args below meth c H locs cells slots QQ (F0 m pc mls mst) := by
  obtain ⟨hd, hl, hv⟩ := vI_spec hv0
  have hl2 := hl.resolve_left (by rintro ⟨⟩)
  dsimp only [lnI] at hl2 hd
  subst hl2
  simp only [stepI] at h
  split at h <;> first | cases h | (unfold oIret at h; split at h <;> cases h) | (unfold oLret at h; split at h <;> cases h) | (unfold oVret at h; split at h <;> cases h) | (unfold oZret at h; split at h; (split at h <;> cases h); cases h)
theorem q_return_ {p : Program} {l : Launch} {e : Env} {R : Room} {s : State} {m : MethodId} {args : Array Value} {below : List Frame} {meth : Method} {c : Code} {QQ : State → Prop} {D : va_G} {A : Nat → Prop} {E : EX0} {k b bs pc pc' : Nat} {ls ls' : LS0} {st st' : List Value} {σ σ1 : SH} {H : Heap} {locs : List Loc} {ws : va_W} {tys : List (ClassId × FieldType)} {mls : Array Slot} {mst : List Value} {cells slots : Nat} {len a : Nat} {v : Int32} {tb : List (Int32 × Nat)} (C : FC k p R s m args meth c A E) (S : SS E D A s σ ls st H locs ws tys mls mst (mL k)) (hcs : cells + b = σ.1.length ∧ slots + bs = slz σ.1) (hcap : σ1.1.length ≤ b + R.cells ∧ slz σ1.1 ≤ bs + R.slots) (hv0 : vI k pc (.return_, len, a, v, tb) = true) (h : stepI (exX E) k pc (.return_, len, a, v, tb) ls st σ = some (.inl (pc', ls', st', σ1))) (K : KKp E D A b bs (mL k) p l e R s m args below meth c QQ ws pc' ls' st' σ1) : W p l e R s m args below meth c H locs cells slots QQ (F0 m pc mls mst) := by
  obtain ⟨hd, hl, hv⟩ := vI_spec hv0
  have hl2 := hl.resolve_left (by rintro ⟨⟩)
  dsimp only [lnI] at hl2 hd
  subst hl2
  simp only [stepI] at h
  split at h <;> first | cases h | (unfold oIret at h; split at h <;> cases h) | (unfold oLret at h; split at h <;> cases h) | (unfold oVret at h; split at h <;> cases h) | (unfold oZret at h; split at h; (split at h <;> cases h); cases h)
theorem q_all {p : Program} {l : Launch} {e : Env} {R : Room} {s : State} {m : MethodId} {args : Array Value} {below : List Frame} {meth : Method} {c : Code} {QQ : State → Prop} {D : va_G} {A : Nat → Prop} {E : EX0} {k b bs pc pc' : Nat} {ls ls' : LS0} {st st' : List Value} {σ σ1 : SH} {H : Heap} {locs : List Loc} {ws : va_W} {tys : List (ClassId × FieldType)} {mls : Array Slot} {mst : List Value} {cells slots : Nat} {r : RI} (C : FC k p R s m args meth c A E) (S : SS E D A s σ ls st H locs ws tys mls mst (mL k)) (hcs : cells + b = σ.1.length ∧ slots + bs = slz σ.1) (hcap : σ1.1.length ≤ b + R.cells ∧ slz σ1.1 ≤ bs + R.slots) (hv0 : vI k pc r = true) (h : stepI (exX E) k pc r ls st σ = some (.inl (pc', ls', st', σ1))) (K : KKp E D A b bs (mL k) p l e R s m args below meth c QQ ws pc' ls' st' σ1) : W p l e R s m args below meth c H locs cells slots QQ (F0 m pc mls mst) := by
  obtain ⟨ins, len, a, v, tb⟩ := r
  cases ins
  case iconst => exact q_iconst C S hcs hcap hv0 h K
  case bipush => exact q_bipush C S hcs hcap hv0 h K
  case sipush => exact q_sipush C S hcs hcap hv0 h K
  case ldc => exact q_ldc C S hcs hcap hv0 h K
  case ldc_w => exact q_ldc_w C S hcs hcap hv0 h K
  case lconst => exact q_lconst C S hcs hcap hv0 h K
  case iload => exact q_iload C S hcs hcap hv0 h K
  case iload_n => exact q_iload_n C S hcs hcap hv0 h K
  case lload => exact q_lload C S hcs hcap hv0 h K
  case lload_n => exact q_lload_n C S hcs hcap hv0 h K
  case aload => exact q_aload C S hcs hcap hv0 h K
  case aload_n => exact q_aload_n C S hcs hcap hv0 h K
  case istore => exact q_istore C S hcs hcap hv0 h K
  case istore_n => exact q_istore_n C S hcs hcap hv0 h K
  case lstore => exact q_lstore C S hcs hcap hv0 h K
  case lstore_n => exact q_lstore_n C S hcs hcap hv0 h K
  case astore_n => exact q_astore_n C S hcs hcap hv0 h K
  case iinc => exact q_iinc C S hcs hcap hv0 h K
  case iadd => exact q_iadd C S hcs hcap hv0 h K
  case isub => exact q_isub C S hcs hcap hv0 h K
  case imul => exact q_imul C S hcs hcap hv0 h K
  case iand => exact q_iand C S hcs hcap hv0 h K
  case ior => exact q_ior C S hcs hcap hv0 h K
  case ixor => exact q_ixor C S hcs hcap hv0 h K
  case ishl => exact q_ishl C S hcs hcap hv0 h K
  case ishr => exact q_ishr C S hcs hcap hv0 h K
  case ladd => exact q_ladd C S hcs hcap hv0 h K
  case lsub => exact q_lsub C S hcs hcap hv0 h K
  case lmul => exact q_lmul C S hcs hcap hv0 h K
  case idiv => exact q_idiv C S hcs hcap hv0 h K
  case irem => exact q_irem C S hcs hcap hv0 h K
  case ldiv => exact q_ldiv C S hcs hcap hv0 h K
  case lrem => exact q_lrem C S hcs hcap hv0 h K
  case ineg => exact q_ineg C S hcs hcap hv0 h K
  case i2l => exact q_i2l C S hcs hcap hv0 h K
  case lcmp => exact q_lcmp C S hcs hcap hv0 h K
  case dup => exact q_dup C S hcs hcap hv0 h K
  case dup2 => exact q_dup2 C S hcs hcap hv0 h K
  case pop => exact q_pop C S hcs hcap hv0 h K
  case pop2 => exact q_pop2 C S hcs hcap hv0 h K
  case ifCond cc oo =>
    cases cc
    · exact q_ifond_eq C S hcs hcap hv0 h K
    · exact q_ifond_ne C S hcs hcap hv0 h K
    · exact q_ifond_lt C S hcs hcap hv0 h K
    · exact q_ifond_ge C S hcs hcap hv0 h K
    · exact q_ifond_gt C S hcs hcap hv0 h K
    · exact q_ifond_le C S hcs hcap hv0 h K
  case if_icmp cc oo =>
    cases cc
    · exact q_if_icmp_eq C S hcs hcap hv0 h K
    · exact q_if_icmp_ne C S hcs hcap hv0 h K
    · exact q_if_icmp_lt C S hcs hcap hv0 h K
    · exact q_if_icmp_ge C S hcs hcap hv0 h K
    · exact q_if_icmp_gt C S hcs hcap hv0 h K
    · exact q_if_icmp_le C S hcs hcap hv0 h K
  case goto => exact q_goto C S hcs hcap hv0 h K
  case arraylength => exact q_arraylength C S hcs hcap hv0 h K
  case iaload => exact q_iaload C S hcs hcap hv0 h K
  case iastore => exact q_iastore C S hcs hcap hv0 h K
  case laload => exact q_laload C S hcs hcap hv0 h K
  case lastore => exact q_lastore C S hcs hcap hv0 h K
  case newarray at0 => cases at0 <;> first | exact q_newarray_int C S hcs hcap hv0 h K | exact q_newarray_long C S hcs hcap hv0 h K | cases h
  case ldc2_w => exact q_ldc2_w C S hcs hcap hv0 h K
  case tableswitch => exact q_tableswitch C S hcs hcap hv0 h K
  case getfield => exact q_getfield C S hcs hcap hv0 h K
  case putfield => exact q_putfield C S hcs hcap hv0 h K
  case getstatic => exact q_getstatic C S hcs hcap hv0 h K
  case new => exact q_new C S hcs hcap hv0 h K
  case invokestatic => exact q_invokestatic C S hcs hcap hv0 h K
  case invokespecial => exact q_invokespecial C S hcs hcap hv0 h K
  case invokevirtual => exact q_invokevirtual C S hcs hcap hv0 h K
  case ireturn => exact q_ireturn C S hcs hcap hv0 h K
  case lreturn => exact q_lreturn C S hcs hcap hv0 h K
  case return_ => exact q_return_ C S hcs hcap hv0 h K
  all_goals cases h
