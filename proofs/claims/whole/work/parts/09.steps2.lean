/-! heap steps, printed by wip/whole/gen2.py -/
theorem s_sw {p : Program} {l : Launch} {e : Env} {R : Room} {s : State} {m : MethodId} {args : Array Value} {below : List Frame} {meth : Method} {c : Code} {QQ : State → Prop} {D : va_G} {A : Nat → Prop} {E : EX0} {k b bs pc pc' : Nat} {ls ls' : LS0} {st st' : List Value} {σ σ1 : SH} {H : Heap} {locs : List Loc} {ws : va_W} {tys : List (ClassId × FieldType)} {mls : Array Slot} {mst : List Value} {cells slots : Nat} (C : FC k p R s m args meth c A E) (S : SS E D A s σ ls st H locs ws tys mls mst (mL k)) (hcs : cells + b = σ.1.length ∧ slots + bs = slz σ.1) (hcap : σ1.1.length ≤ b + R.cells ∧ slz σ1.1 ≤ bs + R.slots) {d lo hi : Int} {os : Array Int} {len t : Nat} {tb : List (Int32 × Nat)} (hd : decode (mB k) pc = .ok (.tableswitch d lo hi os, len)) (hv : (pc : Int) + d = (t : Int) ∧ hi + 1 = lo + (os.toList.length : Int) ∧ -2147483648 ≤ lo ∧ hi ≤ 2147483646 ∧ vT pc lo os.toList tb = true) (h : oSw t tb ls st σ = some (.inl (pc', ls', st', σ1))) (K : KKp E D A b bs (mL k) p l e R s m args below meth c QQ ws pc' ls' st' σ1) : W p l e R s m args below meth c H locs cells slots QQ (F0 m pc mls mst) := by
  obtain ⟨hx, hb, hml, hown, hts, hnw, hnm, hA, hro, hfr, hlo⟩ := C
  obtain ⟨hK, hP, hD, hS, hR, hL, hT⟩ := S
  obtain ⟨v1, v2, v3, v4, v5⟩ := hv
  unfold oSw at h
  split at h
  · rename_i x r
    obtain ⟨r1, rfl, h1⟩ := hT.int
    rcases swX_go (d := t) (x := x) (ls := ls) (st := r) (σ := σ) os.toList tb lo v5 v3 (by omega) with ⟨g1, g2⟩ | ⟨off, T, g1, g2, g3, g4, g5⟩
    · rw [g2] at h
      unfold nx at h
      cases h
      refine lv_tableOut hx hb hd (by omega) v1 ?_
      exact K H locs ws tys mls _ cells slots XT.rf ⟨hK, hP, hD, hS, hR, hL, h1⟩ hcs.1 hcs.2
    · rw [g5] at h
      unfold nx at h
      cases h
      refine lv_tableIn hx hb hd (by omega) (by omega) (by rw [← Array.getElem?_toList]; exact g3) g4 ?_
      exact K H locs ws tys mls _ cells slots XT.rf ⟨hK, hP, hD, hS, hR, hL, h1⟩ hcs.1 hcs.2
  · cases h
theorem s_gf {p : Program} {l : Launch} {e : Env} {R : Room} {s : State} {m : MethodId} {args : Array Value} {below : List Frame} {meth : Method} {c : Code} {QQ : State → Prop} {D : va_G} {A : Nat → Prop} {E : EX0} {k b bs pc pc' : Nat} {ls ls' : LS0} {st st' : List Value} {σ σ1 : SH} {H : Heap} {locs : List Loc} {ws : va_W} {tys : List (ClassId × FieldType)} {mls : Array Slot} {mst : List Value} {cells slots : Nat} (C : FC k p R s m args meth c A E) (S : SS E D A s σ ls st H locs ws tys mls mst (mL k)) (hcs : cells + b = σ.1.length ∧ slots + bs = slz σ.1) (hcap : σ1.1.length ≤ b + R.cells ∧ slz σ1.1 ≤ bs + R.slots) {a i o ci j : Nat} (hd : decode (mB k) pc = .ok (.getfield i, 3)) (hfl : FL[a]? = some (o, i, ci, j)) (ho : o = mO k) (hj : j < (clI ci).2.2) (h : oGf ci j (pc + 3) ls st σ = some (.inl (pc', ls', st', σ1))) (K : KKp E D A b bs (mL k) p l e R s m args below meth c QQ ws pc' ls' st' σ1) : W p l e R s m args below meth c H locs cells slots QQ (F0 m pc mls mst) := by
  obtain ⟨hx, hb, hml, hown, hts, hnw, hnm, hA, hro, hfr, hlo⟩ := C
  obtain ⟨hK, hP, hD, hS, hR, hL, hT⟩ := S
  subst ho
  unfold oGf at h
  split at h
  · rename_i b r
    split at h
    · rename_i hb2
      obtain ⟨hb3, hb4⟩ := hk_spec hb2
      obtain ⟨hci, ad, fs, hw, hlen, hf⟩ := hR.obj hb4
      obtain ⟨a2, r1, rfl, hv, h1⟩ := hT.ref
      cases hv.at hb3 hw
      obtain ⟨w, hw2, hfr⟩ := hf j hj
      refine va_get hx hb hts (lay_ok hci) hown hK hP b hw (cl_at hci) j hj (hts _ (fl_at hfl)) (fun _ q => q) hw2 hd ?_
      unfold fR at hfr
      split at h
      · rename_i hft
        rw [if_pos hft] at hfr
        split at h
        · rename_i q hq
          rw [hq] at hfr
          unfold nx at h
          cases h
          exact K H locs ws tys mls _ cells slots XT.rf ⟨hK, hP, hD, hS, hR, hL, hfr, h1⟩ hcs.1 hcs.2
        · cases h
      · rename_i hft
        rw [if_neg hft] at hfr
        subst hfr
        unfold nx at h
        cases h
        exact K H locs ws tys mls _ cells slots XT.rf ⟨hK, hP, hD, hS, hR, hL, rfl, h1⟩ hcs.1 hcs.2
    · cases h
  · cases h
theorem rel_pf {E : EX0} {tys : List (ClassId × FieldType)} {σ : SH} {ws : va_W} {b ci j ad : Nat} {fs : List Value} {v : Int32} (hR : REL E tys σ ws) (hb4 : σ.1[b]? = some (0, ci)) (hw : ws[b]? = some (ad, .inr (ci, fs))) (hlen : fs.length = (clI ci).2.2) (hf : ∀ j, j < (clI ci).2.2 → ∃ w, fs[j]? = some w ∧ fR E ws ci j σ b w) (hci : ci < 11) (hft : ftag ci j ≠ 2) :
    REL E tys (σ.1, σ.2.1, u2 σ.2.2.1 b j v, σ.2.2.2) (ws.set b (ad, .inr (ci, fs.set j (.int v)))) := by
  refine hR.upd hb4 hw rfl (fun _ _ => rfl) (fun q hq => u2_ne _ _ _ hq) (fun _ _ => rfl) ?_
  have hl := (List.getElem?_eq_some_iff.mp hw).1
  refine ⟨hci, ad, _, List.getElem?_set_self hl, by rw [List.length_set]; exact hlen, fun q hq => ?_⟩
  by_cases hjq : j = q
  · subst hjq
    refine ⟨.int v, List.getElem?_set_self (by rw [hlen]; exact hq), ?_⟩
    unfold fR
    rw [if_neg hft]
    show _ = Value.int (u2 σ.2.2.1 b j v b j)
    rw [u2_at]
  · obtain ⟨w, g1, g2⟩ := hf q hq
    refine ⟨w, by rw [List.getElem?_set_ne hjq]; exact g1, ?_⟩
    have g3 := g2.mono (XT.set (e := .inr (ci, fs.set j (.int v))) hw)
    unfold fR at g3 ⊢
    show (if ftag ci q = 2 then _ else w = Value.int (u2 σ.2.2.1 b j v b q))
    rw [u2_off _ _ _ (fun z => hjq z.symm)]
    exact g3
theorem rel_pr {E : EX0} {tys : List (ClassId × FieldType)} {σ : SH} {ws : va_W} {b ci j ad q0 : Nat} {w0 : Value} {fs : List Value} (hR : REL E tys σ ws) (hb4 : σ.1[b]? = some (0, ci)) (hw : ws[b]? = some (ad, .inr (ci, fs))) (hlen : fs.length = (clI ci).2.2) (hf : ∀ j, j < (clI ci).2.2 → ∃ w, fs[j]? = some w ∧ fR E ws ci j σ b w) (hci : ci < 11) (hft : ftag ci j = 2) (hv0 : vR E ws (.ref q0) w0) :
    REL E tys (σ.1, u2 σ.2.1 b j (some q0), σ.2.2.1, σ.2.2.2) (ws.set b (ad, .inr (ci, fs.set j w0))) := by
  refine hR.upd hb4 hw rfl (fun q hq => u2_ne _ _ _ hq) (fun _ _ => rfl) (fun _ _ => rfl) ?_
  have hl := (List.getElem?_eq_some_iff.mp hw).1
  refine ⟨hci, ad, _, List.getElem?_set_self hl, by rw [List.length_set]; exact hlen, fun q hq => ?_⟩
  by_cases hjq : j = q
  · subst hjq
    refine ⟨w0, List.getElem?_set_self (by rw [hlen]; exact hq), ?_⟩
    unfold fR
    rw [if_pos hft]
    show match u2 σ.2.1 b j (some q0) b j with | some q => vR E _ (.ref q) w0 | none => w0 = .null
    rw [u2_at]
    exact vR.mono (XT.set hw) hv0
  · obtain ⟨w, g1, g2⟩ := hf q hq
    refine ⟨w, by rw [List.getElem?_set_ne hjq]; exact g1, ?_⟩
    have g3 := g2.mono (XT.set (e := .inr (ci, fs.set j w0)) hw)
    unfold fR at g3 ⊢
    show (if ftag ci q = 2 then (match u2 σ.2.1 b j (some q0) b q with | some q => vR E _ (.ref q) w | none => w = .null) else w = Value.int (σ.2.2.1 b q))
    rw [u2_off _ _ _ (fun z => hjq z.symm)]
    exact g3
theorem s_pf {p : Program} {l : Launch} {e : Env} {R : Room} {s : State} {m : MethodId} {args : Array Value} {below : List Frame} {meth : Method} {c : Code} {QQ : State → Prop} {D : va_G} {A : Nat → Prop} {E : EX0} {k b bs pc pc' : Nat} {ls ls' : LS0} {st st' : List Value} {σ σ1 : SH} {H : Heap} {locs : List Loc} {ws : va_W} {tys : List (ClassId × FieldType)} {mls : Array Slot} {mst : List Value} {cells slots : Nat} (C : FC k p R s m args meth c A E) (S : SS E D A s σ ls st H locs ws tys mls mst (mL k)) (hcs : cells + b = σ.1.length ∧ slots + bs = slz σ.1) (hcap : σ1.1.length ≤ b + R.cells ∧ slz σ1.1 ≤ bs + R.slots) {a i o ci j : Nat} (hd : decode (mB k) pc = .ok (.putfield i, 3)) (hfl : FL[a]? = some (o, i, ci, j)) (ho : o = mO k) (hj : j < (clI ci).2.2) (hfn : (if ftag ci j = 2 then ((clI ci).2.1 j).2.2.2 && decide ((mN k).name = "<init>") && decide (((clI ci).2.1 j).1 = cn (mO k)) else !((clI ci).2.1 j).2.2.2) = true) (h : oPf ci j (pc + 3) ls st σ = some (.inl (pc', ls', st', σ1))) (K : KKp E D A b bs (mL k) p l e R s m args below meth c QQ ws pc' ls' st' σ1) : W p l e R s m args below meth c H locs cells slots QQ (F0 m pc mls mst) := by
  obtain ⟨hx, hb, hml, hown, hts, hnw, hnm, hA, hro, hfr, hlo⟩ := C
  obtain ⟨hK, hP, hD, hS, hR, hL, hT⟩ := S
  subst ho
  unfold oPf at h
  split at h
  · rename_i v b r
    split at h
    · rename_i hb2
      split at h
      · rename_i h0
        have hci : ci < 11 := (hR.obj (hk_spec hb2).2).1
        have hty : clTy ci j = .int := by
          rcases ref_ty hci j hj with g | g | g
          · exact g.2
          · rw [h0] at g; exact absurd g.1 (by decide)
          · rw [h0] at g; exact absurd g.1 (by decide)
        obtain ⟨hb3, hb4⟩ := hk_spec hb2
        obtain ⟨hci, ad, fs, hw, hlen, hf⟩ := hR.obj hb4
        obtain ⟨r1, rfl, h1⟩ := hT.int
        obtain ⟨a2, r2, rfl, hv, h2⟩ := h1.ref
        cases hv.at hb3 hw
        refine va_put hx hb hts (lay_ok hci) (clTy ci) (cl_ty hci) (cl_nm hci) hown hK hP hD hS b hw (cl_at hci) j hj (hts _ (fl_at hfl)) (fun _ q => q) (by simpa [h0] using hfn) (ty := .int) (v := .int v) (by rw [cl_ty hci j hj, hty]) rfl rfl (by rw [hlen]; exact hj) hd (fun H1 locs1 hP1 hD1 hS1 => ?_)
        unfold nx at h
        cases h
        exact K H1 locs1 _ tys mls _ cells slots (XT.set hw) ⟨hK, hP1, hD1, hS1, rel_pf hR hb4 hw hlen hf hci (by rw [h0]; decide), hL.mono (XT.set hw), h2.mono (XT.set hw)⟩ hcs.1 hcs.2
      · split at h
        · rename_i hn0 h0
          obtain ⟨h0, h01⟩ := h0
          have hci : ci < 11 := (hR.obj (hk_spec hb2).2).1
          have hty : clTy ci j = .boolean := by
            rcases ref_ty hci j hj with g | g | g
            · rw [h0] at g; exact absurd g.1 (by decide)
            · exact g.2
            · rw [h0] at g; exact absurd g.1 (by decide)
          obtain ⟨hb3, hb4⟩ := hk_spec hb2
          obtain ⟨hci, ad, fs, hw, hlen, hf⟩ := hR.obj hb4
          obtain ⟨r1, rfl, h1⟩ := hT.int
          obtain ⟨a2, r2, rfl, hv, h2⟩ := h1.ref
          cases hv.at hb3 hw
          refine va_put hx hb hts (lay_ok hci) (clTy ci) (cl_ty hci) (cl_nm hci) hown hK hP hD hS b hw (cl_at hci) j hj (hts _ (fl_at hfl)) (fun _ q => q) (by simpa [h0] using hfn) (ty := .boolean) (v := .int v) (by rw [cl_ty hci j hj, hty]) (by rcases h01 with z | z <;> subst z <;> rfl) (by rcases h01 with z | z <;> subst z <;> rfl) (by rw [hlen]; exact hj) hd (fun H1 locs1 hP1 hD1 hS1 => ?_)
          unfold nx at h
          cases h
          exact K H1 locs1 _ tys mls _ cells slots (XT.set hw) ⟨hK, hP1, hD1, hS1, rel_pf hR hb4 hw hlen hf hci (by rw [h0]; decide), hL.mono (XT.set hw), h2.mono (XT.set hw)⟩ hcs.1 hcs.2
        · cases h
    · cases h
  · rename_i q b r
    split at h
    · rename_i hb2
      split at h
      · rename_i h0
        obtain ⟨hb3, hb4⟩ := hk_spec hb2
        obtain ⟨hci, ad, fs, hw, hlen, hf⟩ := hR.obj hb4
        obtain ⟨a1, r1, rfl, hv1, h1⟩ := hT.ref
        obtain ⟨a2, r2, rfl, hv, h2⟩ := h1.ref
        cases hv.at hb3 hw
        rw [if_pos h0] at hfn
        simp only [Bool.and_eq_true, decide_eq_true_eq] at hfn
        obtain ⟨⟨f1, f2⟩, f3⟩ := hfn
        have hty : ∀ a : Nat, narrow (clTy ci j) (.ref a) = .ref a ∧ fits (clTy ci j) (.ref a) = true := by
          rcases ref_ty hci j hj with g | g | g
          · rw [h0] at g; exact absurd g.1 (by decide)
          · rw [h0] at g; exact absurd g.1 (by decide)
          · exact g.2
        refine va_putF hx hb hts (lay_ok hci) (clTy ci) (cl_ty hci) (cl_nm hci) hown hK hP hD hS b hw (cl_at hci) j hj (hts _ (fl_at hfl)) (fun _ q => q) f1 (hnm f2) f3 (ty := clTy ci j) (v := .ref a1) (cl_ty hci j hj) (hty a1).1 (hty a1).2 (by rw [hlen]; exact hj) hd (fun H1 locs1 hP1 hD1 hS1 => ?_)
        unfold nx at h
        cases h
        exact K H1 locs1 _ tys mls _ cells slots (XT.set hw) ⟨hK, hP1, hD1, hS1, rel_pr hR hb4 hw hlen hf hci h0 hv1, hL.mono (XT.set hw), h2.mono (XT.set hw)⟩ hcs.1 hcs.2
      · cases h
    · cases h
  · cases h
theorem s_new {p : Program} {l : Launch} {e : Env} {R : Room} {s : State} {m : MethodId} {args : Array Value} {below : List Frame} {meth : Method} {c : Code} {QQ : State → Prop} {D : va_G} {A : Nat → Prop} {E : EX0} {k b bs pc pc' : Nat} {ls ls' : LS0} {st st' : List Value} {σ σ1 : SH} {H : Heap} {locs : List Loc} {ws : va_W} {tys : List (ClassId × FieldType)} {mls : Array Slot} {mst : List Value} {cells slots : Nat} (C : FC k p R s m args meth c A E) (S : SS E D A s σ ls st H locs ws tys mls mst (mL k)) (hcs : cells + b = σ.1.length ∧ slots + bs = slz σ.1) (hcap : σ1.1.length ≤ b + R.cells ∧ slz σ1.1 ≤ bs + R.slots) {a i o ci : Nat} (hd : decode (mB k) pc = .ok (.new i, 3)) (hcl : CL[a]? = some (o, i, ci)) (ho : o = mO k) (hci : ci < 11) (h : oNew ci (pc + 3) ls st σ = some (.inl (pc', ls', st', σ1))) (K : KKp E D A b bs (mL k) p l e R s m args below meth c QQ ws pc' ls' st' σ1) : W p l e R s m args below meth c H locs cells slots QQ (F0 m pc mls mst) := by
  obtain ⟨hx, hb, hml, hown, hts, hnw, hnm, hA, hro, hfr, hlo⟩ := C
  obtain ⟨hK, hP, hD, hS, hR, hL, hT⟩ := S
  subst ho
  unfold oNew at h
  split at h
  · rename_i hlt
    unfold nx at h
    cases h
    have hz : slz (σ.1 ++ [(0, ci)]) = slz σ.1 + (clI ci).2.2 := by rw [slz_app]; rfl
    have hz1 : (σ.1 ++ [(0, ci)]).length = σ.1.length + 1 := by simp
    obtain ⟨hcap1, hcap2⟩ := hcap
    rw [hz1] at hcap1
    rw [hz] at hcap2
    refine va_new hx hb hts (lay_ok hci) (clTy ci) (cl_ty hci) hown (hts _ (mem_allg (cl_mem hcl (w := .classLink (cn (mO k)) i (clI ci).1) (by simp [clw])) rfl)) (hts _ (mem_allg (cl_mem hcl (w := .instantiable (clI ci).1 (clI ci).2.2) (by simp [clw])) rfl)) (hts _ (mem_allg (cl_mem hcl (w := .initialized (clI ci).1) (by simp [clw])) rfl)) hK hP hD hS hA (cl_at hci) (fs := (List.range (clI ci).2.2).map (fun j => if ftag ci j = 2 then .null else .int 0)) (fun j hj => ?_) (by omega) (by omega) hd (fun q H1 hP1 hD1 hS1 => ?_)
    · rw [def_ty hci j hj]
      unfold vp_V
      rw [List.getD_eq_getElem?_getD, List.getElem?_map, List.getElem?_range hj]
      rfl
    · refine K H1 locs _ tys mls _ _ _ XT.push ⟨hK, hP1, hD1, hS1, ?_, hL.mono XT.push, ⟨⟨q, rfl, ?_⟩, hT.mono XT.push⟩⟩ (by rw [hz1]; omega) (by rw [hz]; omega)
      · refine hR.push rfl (fun _ _ z => z) (fun z hz => z2_ne _ _ hz) (fun z hz => z2_ne _ _ hz) (fun _ _ => rfl) ?_
        refine ⟨hci, q, _, by rw [← hR.1, List.getElem?_append_right (Nat.le_refl _), Nat.sub_self]; rfl, by rw [List.length_map, List.length_range], fun j hj => ?_⟩
        refine ⟨if ftag ci j = 2 then .null else .int 0, by rw [List.getElem?_map, List.getElem?_range hj]; rfl, ?_⟩
        unfold fR
        split
        · show match z2 σ.2.1 σ.1.length (fun _ => none) σ.1.length j with | some q => _ | none => _
          rw [z2_self]
        · show _ = Value.int (z2 σ.2.2.1 σ.1.length (fun _ => 0) σ.1.length j)
          rw [z2_self]
      · rw [if_pos hlt]
        exact ⟨_, by rw [← hR.1, List.getElem?_append_right (Nat.le_refl _), Nat.sub_self]; rfl⟩
  · cases h
theorem s_nai {p : Program} {l : Launch} {e : Env} {R : Room} {s : State} {m : MethodId} {args : Array Value} {below : List Frame} {meth : Method} {c : Code} {QQ : State → Prop} {D : va_G} {A : Nat → Prop} {E : EX0} {k b bs pc pc' : Nat} {ls ls' : LS0} {st st' : List Value} {σ σ1 : SH} {H : Heap} {locs : List Loc} {ws : va_W} {tys : List (ClassId × FieldType)} {mls : Array Slot} {mst : List Value} {cells slots : Nat} (C : FC k p R s m args meth c A E) (S : SS E D A s σ ls st H locs ws tys mls mst (mL k)) (hcs : cells + b = σ.1.length ∧ slots + bs = slz σ.1) (hcap : σ1.1.length ≤ b + R.cells ∧ slz σ1.1 ≤ bs + R.slots) (hd : decode (mB k) pc = .ok (.newarray .int, 2)) (h : oNewI (pc + 2) ls st σ = some (.inl (pc', ls', st', σ1))) (K : KKp E D A b bs (mL k) p l e R s m args below meth c QQ ws pc' ls' st' σ1) : W p l e R s m args below meth c H locs cells slots QQ (F0 m pc mls mst) := by
  obtain ⟨hx, hb, hml, hown, hts, hnw, hnm, hA, hro, hfr, hlo⟩ := C
  obtain ⟨hK, hP, hD, hS, hR, hL, hT⟩ := S
  unfold oNewI at h
  split at h
  · rename_i n r
    split at h
    · rename_i hcond
      obtain ⟨hlt, hn0, hn1⟩ := hcond
      unfold nx at h
      cases h
      have hz : slz (σ.1 ++ [(1, n.toNatClampNeg)]) = slz σ.1 + n.toNatClampNeg := by rw [slz_app]; rfl
      have hz1 : (σ.1 ++ [(1, n.toNatClampNeg)]).length = σ.1.length + 1 := by simp
      obtain ⟨hcap1, hcap2⟩ := hcap
      rw [hz1] at hcap1
      rw [hz] at hcap2
      obtain ⟨r1, rfl, h1⟩ := hT.int
      have hnn : ¬ n < 0 := by
        intro q
        rw [Int32.lt_iff_toInt_lt] at q
        have := Int32.le_iff_toInt_le.mp hn0
        omega
      have hby : n.toNatClampNeg * componentBytes .int ≤ 536870912 := by
        have : componentBytes .int ≤ 8 := by decide
        have h8 := Nat.mul_le_mul hn1 this
        omega
      refine va_newa (atype := .int) hx hb (hts _ w_ai) (ty := .int) rfl hK hP hD hS hA (N' := n.toNatClampNeg) (a0 := (n.toNatClampNeg, .inl (fun _ => 0))) (fun _ => rfl) hnn rfl hby (by omega) (by omega) hd (fun q cA H1 hK1 hP1 hD1 hS1 => ?_)
      have hty : ∀ (i : Nat) (x : ClassId × FieldType), tys[i]? = some x → (tys ++ [(cA, .int)])[i]? = some x := fun i x hi => by
        rw [List.getElem?_append_left (List.getElem?_eq_some_iff.mp hi).1]; exact hi
      refine K H1 locs _ _ mls _ _ _ XT.push ⟨hK1, hP1, hD1, hS1, ?_, hL.mono XT.push, ⟨⟨q, rfl, ?_⟩, h1.mono XT.push⟩⟩ (by rw [hz1]; omega) (by rw [hz]; omega)
      · refine hR.push rfl hty (fun _ _ => rfl) (fun z hz => z2_ne _ _ hz) (fun _ _ => rfl) ?_
        refine ⟨q, cA, tys.length, ?_, by rw [List.getElem?_append_right (Nat.le_refl _), Nat.sub_self]; rfl⟩
        show (ws ++ _)[σ.1.length]? = some (q, .inl (cA, n.toNatClampNeg, .inl (z2 σ.2.2.1 σ.1.length (fun _ => 0) σ.1.length)))
        rw [z2_self, ← hR.1, List.getElem?_append_right (Nat.le_refl _), Nat.sub_self]
        rfl
      · rw [if_pos hlt]
        exact ⟨_, by rw [← hR.1, List.getElem?_append_right (Nat.le_refl _), Nat.sub_self]; rfl⟩
    · cases h
  · cases h
theorem s_nal {p : Program} {l : Launch} {e : Env} {R : Room} {s : State} {m : MethodId} {args : Array Value} {below : List Frame} {meth : Method} {c : Code} {QQ : State → Prop} {D : va_G} {A : Nat → Prop} {E : EX0} {k b bs pc pc' : Nat} {ls ls' : LS0} {st st' : List Value} {σ σ1 : SH} {H : Heap} {locs : List Loc} {ws : va_W} {tys : List (ClassId × FieldType)} {mls : Array Slot} {mst : List Value} {cells slots : Nat} (C : FC k p R s m args meth c A E) (S : SS E D A s σ ls st H locs ws tys mls mst (mL k)) (hcs : cells + b = σ.1.length ∧ slots + bs = slz σ.1) (hcap : σ1.1.length ≤ b + R.cells ∧ slz σ1.1 ≤ bs + R.slots) (hd : decode (mB k) pc = .ok (.newarray .long, 2)) (h : oNewL (pc + 2) ls st σ = some (.inl (pc', ls', st', σ1))) (K : KKp E D A b bs (mL k) p l e R s m args below meth c QQ ws pc' ls' st' σ1) : W p l e R s m args below meth c H locs cells slots QQ (F0 m pc mls mst) := by
  obtain ⟨hx, hb, hml, hown, hts, hnw, hnm, hA, hro, hfr, hlo⟩ := C
  obtain ⟨hK, hP, hD, hS, hR, hL, hT⟩ := S
  unfold oNewL at h
  split at h
  · rename_i n r
    split at h
    · rename_i hcond
      obtain ⟨hlt, hn0, hn1⟩ := hcond
      unfold nx at h
      cases h
      have hz : slz (σ.1 ++ [(2, n.toNatClampNeg)]) = slz σ.1 + n.toNatClampNeg := by rw [slz_app]; rfl
      have hz1 : (σ.1 ++ [(2, n.toNatClampNeg)]).length = σ.1.length + 1 := by simp
      obtain ⟨hcap1, hcap2⟩ := hcap
      rw [hz1] at hcap1
      rw [hz] at hcap2
      obtain ⟨r1, rfl, h1⟩ := hT.int
      have hnn : ¬ n < 0 := by
        intro q
        rw [Int32.lt_iff_toInt_lt] at q
        have := Int32.le_iff_toInt_le.mp hn0
        omega
      have hby : n.toNatClampNeg * componentBytes .long ≤ 536870912 := by
        have : componentBytes .long ≤ 8 := by decide
        have h8 := Nat.mul_le_mul hn1 this
        omega
      refine va_newa (atype := .long) hx hb (hts _ w_al) (ty := .long) rfl hK hP hD hS hA (N' := n.toNatClampNeg) (a0 := (n.toNatClampNeg, .inr (.inl (fun _ => 0)))) (fun _ => rfl) hnn rfl hby (by omega) (by omega) hd (fun q cA H1 hK1 hP1 hD1 hS1 => ?_)
      have hty : ∀ (i : Nat) (x : ClassId × FieldType), tys[i]? = some x → (tys ++ [(cA, .long)])[i]? = some x := fun i x hi => by
        rw [List.getElem?_append_left (List.getElem?_eq_some_iff.mp hi).1]; exact hi
      refine K H1 locs _ _ mls _ _ _ XT.push ⟨hK1, hP1, hD1, hS1, ?_, hL.mono XT.push, ⟨⟨q, rfl, ?_⟩, h1.mono XT.push⟩⟩ (by rw [hz1]; omega) (by rw [hz]; omega)
      · refine hR.push rfl hty (fun _ _ => rfl) (fun _ _ => rfl) (fun z hz => z2_ne _ _ hz) ?_
        refine ⟨q, cA, tys.length, ?_, by rw [List.getElem?_append_right (Nat.le_refl _), Nat.sub_self]; rfl⟩
        show (ws ++ _)[σ.1.length]? = some (q, .inl (cA, n.toNatClampNeg, .inr (.inl (z2 σ.2.2.2 σ.1.length (fun _ => 0) σ.1.length))))
        rw [z2_self, ← hR.1, List.getElem?_append_right (Nat.le_refl _), Nat.sub_self]
        rfl
      · rw [if_pos hlt]
        exact ⟨_, by rw [← hR.1, List.getElem?_append_right (Nat.le_refl _), Nat.sub_self]; rfl⟩
    · cases h
  · cases h
theorem s_len {p : Program} {l : Launch} {e : Env} {R : Room} {s : State} {m : MethodId} {args : Array Value} {below : List Frame} {meth : Method} {c : Code} {QQ : State → Prop} {D : va_G} {A : Nat → Prop} {E : EX0} {k b bs pc pc' : Nat} {ls ls' : LS0} {st st' : List Value} {σ σ1 : SH} {H : Heap} {locs : List Loc} {ws : va_W} {tys : List (ClassId × FieldType)} {mls : Array Slot} {mst : List Value} {cells slots : Nat} (C : FC k p R s m args meth c A E) (S : SS E D A s σ ls st H locs ws tys mls mst (mL k)) (hcs : cells + b = σ.1.length ∧ slots + bs = slz σ.1) (hcap : σ1.1.length ≤ b + R.cells ∧ slz σ1.1 ≤ bs + R.slots) (hd : decode (mB k) pc = .ok (.arraylength, 1)) (h : oLen (exX E) (pc + 1) ls st σ = some (.inl (pc', ls', st', σ1))) (K : KKp E D A b bs (mL k) p l e R s m args below meth c QQ ws pc' ls' st' σ1) : W p l e R s m args below meth c H locs cells slots QQ (F0 m pc mls mst) := by
  obtain ⟨hx, hb, hml, hown, hts, hnw, hnm, hA, hro, hfr, hlo⟩ := C
  obtain ⟨hK, hP, hD, hS, hR, hL, hT⟩ := S
  unfold oLen at h
  split at h
  · rename_i b r
    obtain ⟨a2, r1, rfl, hv, h1⟩ := hT.ref
    split at h
    · rename_i hb3
      split at h
      · rename_i n hb4
        obtain ⟨ad, cA, t0, hw, ht0⟩ := hR.ia hb4
        cases hv.at hb3 hw
        unfold nx at h
        cases h
        refine va_alen hx hb hK hP b t0 hw ht0 rfl hd ?_
        exact K H locs ws tys mls _ cells slots XT.rf ⟨hK, hP, hD, hS, hR, hL, rfl, h1⟩ hcs.1 hcs.2
      · rename_i n hb4
        obtain ⟨ad, cA, t0, hw, ht0⟩ := hR.la hb4
        cases hv.at hb3 hw
        unfold nx at h
        cases h
        refine va_alen hx hb hK hP b t0 hw ht0 rfl hd ?_
        exact K H locs ws tys mls _ cells slots XT.rf ⟨hK, hP, hD, hS, hR, hL, rfl, h1⟩ hcs.1 hcs.2
      · cases h
    · rename_i hb3
      split at h
      · rename_i e0 he0
        obtain ⟨a3, h3, h4⟩ := hv
        cases h3
        rw [if_neg hb3] at h4
        obtain ⟨e1, h5, rfl⟩ := h4
        unfold exX at he0
        rw [List.getElem?_map, h5] at he0
        cases he0
        unfold nx at h
        cases h
        refine va_tlen hx hb (hro.1 _ _ h5) hS rfl hd ?_
        exact K H locs ws tys mls _ cells slots XT.rf ⟨hK, hP, hD, hS, hR, hL, rfl, h1⟩ hcs.1 hcs.2
      · cases h
  · cases h
theorem s_iald {p : Program} {l : Launch} {e : Env} {R : Room} {s : State} {m : MethodId} {args : Array Value} {below : List Frame} {meth : Method} {c : Code} {QQ : State → Prop} {D : va_G} {A : Nat → Prop} {E : EX0} {k b bs pc pc' : Nat} {ls ls' : LS0} {st st' : List Value} {σ σ1 : SH} {H : Heap} {locs : List Loc} {ws : va_W} {tys : List (ClassId × FieldType)} {mls : Array Slot} {mst : List Value} {cells slots : Nat} (C : FC k p R s m args meth c A E) (S : SS E D A s σ ls st H locs ws tys mls mst (mL k)) (hcs : cells + b = σ.1.length ∧ slots + bs = slz σ.1) (hcap : σ1.1.length ≤ b + R.cells ∧ slz σ1.1 ≤ bs + R.slots) (hd : decode (mB k) pc = .ok (.iaload, 1)) (h : oIald (exX E) (pc + 1) ls st σ = some (.inl (pc', ls', st', σ1))) (K : KKp E D A b bs (mL k) p l e R s m args below meth c QQ ws pc' ls' st' σ1) : W p l e R s m args below meth c H locs cells slots QQ (F0 m pc mls mst) := by
  obtain ⟨hx, hb, hml, hown, hts, hnw, hnm, hA, hro, hfr, hlo⟩ := C
  obtain ⟨hK, hP, hD, hS, hR, hL, hT⟩ := S
  unfold oIald at h
  split at h
  · rename_i i b r
    obtain ⟨r0, rfl, h0⟩ := hT.int
    obtain ⟨a2, r1, rfl, hv, h1⟩ := h0.ref
    split at h
    · rename_i hb3
      split at h
      · rename_i n hb4
        split at h
        · rename_i hin
          obtain ⟨ad, cA, t0, hw, ht0⟩ := hR.ia hb4
          cases hv.at hb3 hw
          unfold nx at h
          cases h
          refine va_iald hx hb hK hP b t0 hw ht0 (inb_of hin) hd ?_
          exact K H locs ws tys mls _ cells slots XT.rf ⟨hK, hP, hD, hS, hR, hL, rfl, h1⟩ hcs.1 hcs.2
        · cases h
      · cases h
    · rename_i hb3
      split at h
      · rename_i e0 he0
        split at h
        · rename_i hin
          obtain ⟨a3, h3, h4⟩ := hv
          cases h3
          rw [if_neg hb3] at h4
          obtain ⟨e1, h5, rfl⟩ := h4
          unfold exX at he0
          rw [List.getElem?_map, h5] at he0
          cases he0
          unfold nx at h
          cases h
          refine va_ti hx hb (hro.1 _ _ h5) hS (inb_of hin) rfl hd ?_
          exact K H locs ws tys mls _ cells slots XT.rf ⟨hK, hP, hD, hS, hR, hL, rfl, h1⟩ hcs.1 hcs.2
        · cases h
      · cases h
  · cases h
theorem s_lald {p : Program} {l : Launch} {e : Env} {R : Room} {s : State} {m : MethodId} {args : Array Value} {below : List Frame} {meth : Method} {c : Code} {QQ : State → Prop} {D : va_G} {A : Nat → Prop} {E : EX0} {k b bs pc pc' : Nat} {ls ls' : LS0} {st st' : List Value} {σ σ1 : SH} {H : Heap} {locs : List Loc} {ws : va_W} {tys : List (ClassId × FieldType)} {mls : Array Slot} {mst : List Value} {cells slots : Nat} (C : FC k p R s m args meth c A E) (S : SS E D A s σ ls st H locs ws tys mls mst (mL k)) (hcs : cells + b = σ.1.length ∧ slots + bs = slz σ.1) (hcap : σ1.1.length ≤ b + R.cells ∧ slz σ1.1 ≤ bs + R.slots) (hd : decode (mB k) pc = .ok (.laload, 1)) (h : oLald (pc + 1) ls st σ = some (.inl (pc', ls', st', σ1))) (K : KKp E D A b bs (mL k) p l e R s m args below meth c QQ ws pc' ls' st' σ1) : W p l e R s m args below meth c H locs cells slots QQ (F0 m pc mls mst) := by
  obtain ⟨hx, hb, hml, hown, hts, hnw, hnm, hA, hro, hfr, hlo⟩ := C
  obtain ⟨hK, hP, hD, hS, hR, hL, hT⟩ := S
  unfold oLald at h
  split at h
  · rename_i i b r
    obtain ⟨r0, rfl, h0⟩ := hT.int
    obtain ⟨a2, r1, rfl, hv, h1⟩ := h0.ref
    split at h
    · rename_i n hb2
      obtain ⟨hb3, hb4⟩ := hk_spec hb2
      split at h
      · rename_i hin
        obtain ⟨ad, cA, t0, hw, ht0⟩ := hR.la hb4
        cases hv.at hb3 hw
        unfold nx at h
        cases h
        refine va_lald hx hb hK hP b t0 hw ht0 (inb_of hin) hd ?_
        exact K H locs ws tys mls _ cells slots XT.rf ⟨hK, hP, hD, hS, hR, hL, rfl, h1⟩ hcs.1 hcs.2
      · cases h
    · cases h
  · cases h
theorem s_iast {p : Program} {l : Launch} {e : Env} {R : Room} {s : State} {m : MethodId} {args : Array Value} {below : List Frame} {meth : Method} {c : Code} {QQ : State → Prop} {D : va_G} {A : Nat → Prop} {E : EX0} {k b bs pc pc' : Nat} {ls ls' : LS0} {st st' : List Value} {σ σ1 : SH} {H : Heap} {locs : List Loc} {ws : va_W} {tys : List (ClassId × FieldType)} {mls : Array Slot} {mst : List Value} {cells slots : Nat} (C : FC k p R s m args meth c A E) (S : SS E D A s σ ls st H locs ws tys mls mst (mL k)) (hcs : cells + b = σ.1.length ∧ slots + bs = slz σ.1) (hcap : σ1.1.length ≤ b + R.cells ∧ slz σ1.1 ≤ bs + R.slots) (hd : decode (mB k) pc = .ok (.iastore, 1)) (h : oIast (pc + 1) ls st σ = some (.inl (pc', ls', st', σ1))) (K : KKp E D A b bs (mL k) p l e R s m args below meth c QQ ws pc' ls' st' σ1) : W p l e R s m args below meth c H locs cells slots QQ (F0 m pc mls mst) := by
  obtain ⟨hx, hb, hml, hown, hts, hnw, hnm, hA, hro, hfr, hlo⟩ := C
  obtain ⟨hK, hP, hD, hS, hR, hL, hT⟩ := S
  unfold oIast at h
  split at h
  · rename_i v i b r
    obtain ⟨r00, rfl, h00⟩ := hT.int
    obtain ⟨r0, rfl, h0⟩ := h00.int
    obtain ⟨a2, r1, rfl, hv, h1⟩ := h0.ref
    split at h
    · rename_i n hb2
      obtain ⟨hb3, hb4⟩ := hk_spec hb2
      split at h
      · rename_i hin
        obtain ⟨ad, cA, t0, hw, ht0⟩ := hR.ia hb4
        cases hv.at hb3 hw
        unfold nx at h
        cases h
        refine va_iast hx hb hK hP hD hS b t0 hw ht0 (inb_of hin) hd (fun H1 locs1 hP1 hD1 hS1 => ?_)
        refine K H1 locs1 _ tys mls _ cells slots (XT.set hw) ⟨hK, hP1, hD1, hS1, ?_, hL.mono (XT.set hw), h1.mono (XT.set hw)⟩ hcs.1 hcs.2
        refine hR.upd hb4 hw rfl (fun _ _ => rfl) (fun z hz => u2_ne _ _ _ hz) (fun _ _ => rfl) ?_
        refine ⟨a2, cA, t0, ?_, ht0⟩
        show _ = some ((a2, .inl (cA, n, .inl (u2 σ.2.2.1 b i.toNatClampNeg v b))) : Nat × va_E)
        rw [List.getElem?_set_self (List.getElem?_eq_some_iff.mp hw).1, u2_self]
        rfl
      · cases h
    · cases h
  · cases h
theorem s_last {p : Program} {l : Launch} {e : Env} {R : Room} {s : State} {m : MethodId} {args : Array Value} {below : List Frame} {meth : Method} {c : Code} {QQ : State → Prop} {D : va_G} {A : Nat → Prop} {E : EX0} {k b bs pc pc' : Nat} {ls ls' : LS0} {st st' : List Value} {σ σ1 : SH} {H : Heap} {locs : List Loc} {ws : va_W} {tys : List (ClassId × FieldType)} {mls : Array Slot} {mst : List Value} {cells slots : Nat} (C : FC k p R s m args meth c A E) (S : SS E D A s σ ls st H locs ws tys mls mst (mL k)) (hcs : cells + b = σ.1.length ∧ slots + bs = slz σ.1) (hcap : σ1.1.length ≤ b + R.cells ∧ slz σ1.1 ≤ bs + R.slots) (hd : decode (mB k) pc = .ok (.lastore, 1)) (h : oLast (pc + 1) ls st σ = some (.inl (pc', ls', st', σ1))) (K : KKp E D A b bs (mL k) p l e R s m args below meth c QQ ws pc' ls' st' σ1) : W p l e R s m args below meth c H locs cells slots QQ (F0 m pc mls mst) := by
  obtain ⟨hx, hb, hml, hown, hts, hnw, hnm, hA, hro, hfr, hlo⟩ := C
  obtain ⟨hK, hP, hD, hS, hR, hL, hT⟩ := S
  unfold oLast at h
  split at h
  · rename_i v i b r
    obtain ⟨r00, rfl, h00⟩ := hT.long
    obtain ⟨r0, rfl, h0⟩ := h00.int
    obtain ⟨a2, r1, rfl, hv, h1⟩ := h0.ref
    split at h
    · rename_i n hb2
      obtain ⟨hb3, hb4⟩ := hk_spec hb2
      split at h
      · rename_i hin
        obtain ⟨ad, cA, t0, hw, ht0⟩ := hR.la hb4
        cases hv.at hb3 hw
        unfold nx at h
        cases h
        refine va_last hx hb hK hP hD hS b t0 hw ht0 (inb_of hin) hd (fun H1 locs1 hP1 hD1 hS1 => ?_)
        refine K H1 locs1 _ tys mls _ cells slots (XT.set hw) ⟨hK, hP1, hD1, hS1, ?_, hL.mono (XT.set hw), h1.mono (XT.set hw)⟩ hcs.1 hcs.2
        refine hR.upd hb4 hw rfl (fun _ _ => rfl) (fun _ _ => rfl) (fun z hz => u2_ne _ _ _ hz) ?_
        refine ⟨a2, cA, t0, ?_, ht0⟩
        show _ = some ((a2, .inl (cA, n, .inr (.inl (u2 σ.2.2.2 b i.toNatClampNeg v b)))) : Nat × va_E)
        rw [List.getElem?_set_self (List.getElem?_eq_some_iff.mp hw).1, u2_self]
        rfl
      · cases h
    · cases h
  · cases h
theorem s_cpy {p : Program} {l : Launch} {e : Env} {R : Room} {s : State} {m : MethodId} {args : Array Value} {below : List Frame} {meth : Method} {c : Code} {QQ : State → Prop} {D : va_G} {A : Nat → Prop} {E : EX0} {k b bs pc pc' : Nat} {ls ls' : LS0} {st st' : List Value} {σ σ1 : SH} {H : Heap} {locs : List Loc} {ws : va_W} {tys : List (ClassId × FieldType)} {mls : Array Slot} {mst : List Value} {cells slots : Nat} (C : FC k p R s m args meth c A E) (S : SS E D A s σ ls st H locs ws tys mls mst (mL k)) (hcs : cells + b = σ.1.length ∧ slots + bs = slz σ.1) (hcap : σ1.1.length ≤ b + R.cells ∧ slz σ1.1 ≤ bs + R.slots) {i a o n0 j0 : Nat} (hd : decode (mB k) pc = .ok (.invokestatic i, 3)) (hml2 : ML[a]? = some (o, i, 6, j0, n0)) (ho : o = mO k) (h1k : 1 ≤ mK k) (h : oCpy (pc + 3) ls st σ = some (.inl (pc', ls', st', σ1))) (K : KKp E D A b bs (mL k) p l e R s m args below meth c QQ ws pc' ls' st' σ1) : W p l e R s m args below meth c H locs cells slots QQ (F0 m pc mls mst) := by
  obtain ⟨hx, hb, hml, hown, hts, hnw, hnm, hA, hro, hfr, hlo⟩ := C
  obtain ⟨hK, hP, hD, hS, hR, hL, hT⟩ := S
  subst ho
  unfold oCpy at h
  split at h
  · rename_i n d b0 s0 a0
    obtain ⟨r1, rfl, h1⟩ := hT.int
    obtain ⟨r2, rfl, h2⟩ := h1.int
    obtain ⟨ab, r3, rfl, hvb, h3⟩ := h2.ref
    obtain ⟨r4, rfl, h4⟩ := h3.int
    obtain ⟨aa, r5, rfl, hva, h5⟩ := h4.ref
    have h6 := h5.nil
    subst h6
    split at h
    · rename_i p0 q0 hka hkb
      split at h
      · rename_i hcond
        obtain ⟨rfl, rfl, hp1, rfl, rfl⟩ := hcond
        obtain ⟨ha3, ha4⟩ := hk_spec hka
        obtain ⟨hb3, hb4⟩ := hk_spec hkb
        obtain ⟨ad0, cA0, t0, hw0, ht0⟩ := hR.ia ha4
        obtain ⟨ad1, cA1, t1, hw1, ht1⟩ := hR.ia hb4
        cases hva.at ha3 hw0
        cases hvb.at hb3 hw1
        unfold nx at h
        cases h
        have hcl : (Int32.ofNat p0).toNatClampNeg = p0 := nI_clamp (n := p0) (by omega)
        have hc0 : (0 : Int32).toNatClampNeg = 0 := rfl
        have hnw : nativeFrameWords "java/lang/System" "arraycopy" 5 = 7 := by decide +kernel
        refine va_copyi hx hb (by rw [hml]; exact hL.1.1.symm) hown (hts _ (mem_allg (ml_mem hml2 (w := .methodLink (cn (mO k)) i arraycopyName) (by simp [mlw])) rfl)) (hts _ w_acn) (hts _ w_acs) (hts _ wini_sys) hK hP hD hS a0 b0 t0 t1 hw0 hw1 ht0 ht1 rfl (by decide) (by decide) (nI_pos (n := p0) (by omega)) (by rw [hcl, hc0]; omega) (by rw [hcl, hc0]; omega) (fun _ _ => rfl) (by omega) (by rw [hnw]; show 0 + _ ≤ _; omega) hd (fun H1 locs1 hP1 hD1 hS1 => ?_)
        rw [hcl, hc0] at hP1 hD1
        have hsw : ∀ H : Heap, va_at D vwCl (ab, .inl (cA1, p0, .inl (va_cpy (σ.2.2.1 a0) (σ.2.2.1 b0) 0 0 p0))) H → va_at D vwCl (ab, .inl (cA1, p0, .inl (σ.2.2.1 a0))) H := by
          intro H hat
          show H[ab]? = some (vp_cell cA1 (p0, .inl (σ.2.2.1 a0)))
          rw [show H[ab]? = some (vp_cell cA1 (p0, .inl (va_cpy (σ.2.2.1 a0) (σ.2.2.1 b0) 0 0 p0))) from hat, vp_cell_i, vp_cell_i]
          refine congrArg some (arrV_cg fun j hj => ?_)
          rw [pk_cpy_in (Nat.zero_le _) (by omega)]
          simp
        refine K H1 locs1 (ws.set b0 (ab, .inl (cA1, p0, .inl (σ.2.2.1 a0)))) tys mls _ cells slots (XT.set hw1) ⟨hK, my_swap hP1 hsw, hD.set hw1, hS1, ?_, hL.mono (XT.set hw1), trivial⟩ hcs.1 hcs.2
        refine hR.upd hb4 hw1 rfl (fun _ _ => rfl) (fun z hz => z2_ne _ _ hz) (fun _ _ => rfl) ?_
        refine ⟨ab, cA1, t1, ?_, ht1⟩
        show _ = some ((ab, .inl (cA1, p0, .inl (z2 σ.2.2.1 b0 (σ.2.2.1 a0) b0))) : Nat × va_E)
        rw [List.getElem?_set_self (List.getElem?_eq_some_iff.mp hw1).1, z2_self]
      · cases h
    · cases h
  · cases h
theorem s_max {p : Program} {l : Launch} {e : Env} {R : Room} {s : State} {m : MethodId} {args : Array Value} {below : List Frame} {meth : Method} {c : Code} {QQ : State → Prop} {D : va_G} {A : Nat → Prop} {E : EX0} {k b bs pc pc' : Nat} {ls ls' : LS0} {st st' : List Value} {σ σ1 : SH} {H : Heap} {locs : List Loc} {ws : va_W} {tys : List (ClassId × FieldType)} {mls : Array Slot} {mst : List Value} {cells slots : Nat} (C : FC k p R s m args meth c A E) (S : SS E D A s σ ls st H locs ws tys mls mst (mL k)) (hcs : cells + b = σ.1.length ∧ slots + bs = slz σ.1) (hcap : σ1.1.length ≤ b + R.cells ∧ slz σ1.1 ≤ bs + R.slots) {i a o n0 j0 : Nat} (hd : decode (mB k) pc = .ok (.invokestatic i, 3)) (hml2 : ML[a]? = some (o, i, 7, j0, n0)) (ho : o = mO k) (h1k : 1 ≤ mK k) (h : oMax (pc + 3) ls st σ = some (.inl (pc', ls', st', σ1))) (K : KKp E D A b bs (mL k) p l e R s m args below meth c QQ ws pc' ls' st' σ1) : W p l e R s m args below meth c H locs cells slots QQ (F0 m pc mls mst) := by
  obtain ⟨hx, hb, hml, hown, hts, hnw, hnm, hA, hro, hfr, hlo⟩ := C
  obtain ⟨hK, hP, hD, hS, hR, hL, hT⟩ := S
  subst ho
  unfold oMax at h
  split at h
  · rename_i y x r
    split at h
    · rename_i hcs8
      obtain ⟨r1, rfl, h1⟩ := hT.int
      obtain ⟨r2, rfl, h2⟩ := h1.int
      unfold nx at h
      cases h
      have h8 := h2.cs
      refine va_mmax hx hb (by rw [hml]; exact hL.1.1.symm) hown (hts _ (mem_allg (ml_mem hml2 (w := .methodLink (cn (mO k)) i Lib.Math.max.name) (by simp [mlw])) rfl)) (hts _ w_mxs) (hts _ wini_math) (hts _ w_mxc) (by omega) (by rw [h8]; omega) (by omega) (by omega) hd ?_
      exact K H locs ws tys mls _ cells slots XT.rf ⟨hK, hP, hD, hS, hR, hL, rfl, h2⟩ hcs.1 hcs.2
    · cases h
  · cases h
theorem s_min {p : Program} {l : Launch} {e : Env} {R : Room} {s : State} {m : MethodId} {args : Array Value} {below : List Frame} {meth : Method} {c : Code} {QQ : State → Prop} {D : va_G} {A : Nat → Prop} {E : EX0} {k b bs pc pc' : Nat} {ls ls' : LS0} {st st' : List Value} {σ σ1 : SH} {H : Heap} {locs : List Loc} {ws : va_W} {tys : List (ClassId × FieldType)} {mls : Array Slot} {mst : List Value} {cells slots : Nat} (C : FC k p R s m args meth c A E) (S : SS E D A s σ ls st H locs ws tys mls mst (mL k)) (hcs : cells + b = σ.1.length ∧ slots + bs = slz σ.1) (hcap : σ1.1.length ≤ b + R.cells ∧ slz σ1.1 ≤ bs + R.slots) {i a o n0 j0 : Nat} (hd : decode (mB k) pc = .ok (.invokestatic i, 3)) (hml2 : ML[a]? = some (o, i, 8, j0, n0)) (ho : o = mO k) (h1k : 1 ≤ mK k) (h : oMin (pc + 3) ls st σ = some (.inl (pc', ls', st', σ1))) (K : KKp E D A b bs (mL k) p l e R s m args below meth c QQ ws pc' ls' st' σ1) : W p l e R s m args below meth c H locs cells slots QQ (F0 m pc mls mst) := by
  obtain ⟨hx, hb, hml, hown, hts, hnw, hnm, hA, hro, hfr, hlo⟩ := C
  obtain ⟨hK, hP, hD, hS, hR, hL, hT⟩ := S
  subst ho
  unfold oMin at h
  split at h
  · rename_i y x r
    split at h
    · rename_i hcs8
      obtain ⟨r1, rfl, h1⟩ := hT.int
      obtain ⟨r2, rfl, h2⟩ := h1.int
      unfold nx at h
      cases h
      have h8 := h2.cs
      refine va_mmin hx hb (by rw [hml]; exact hL.1.1.symm) hown (hts _ (mem_allg (ml_mem hml2 (w := .methodLink (cn (mO k)) i Lib.Math.min.name) (by simp [mlw])) rfl)) (hts _ w_mns) (hts _ wini_math) (hts _ w_mnc) (by omega) (by rw [h8]; omega) (by omega) (by omega) hd ?_
      exact K H locs ws tys mls _ cells slots XT.rf ⟨hK, hP, hD, hS, hR, hL, rfl, h2⟩ hcs.1 hcs.2
    · cases h
  · cases h
theorem s_oi {p : Program} {l : Launch} {e : Env} {R : Room} {s : State} {m : MethodId} {args : Array Value} {below : List Frame} {meth : Method} {c : Code} {QQ : State → Prop} {D : va_G} {A : Nat → Prop} {E : EX0} {k b bs pc pc' : Nat} {ls ls' : LS0} {st st' : List Value} {σ σ1 : SH} {H : Heap} {locs : List Loc} {ws : va_W} {tys : List (ClassId × FieldType)} {mls : Array Slot} {mst : List Value} {cells slots : Nat} (C : FC k p R s m args meth c A E) (S : SS E D A s σ ls st H locs ws tys mls mst (mL k)) (hcs : cells + b = σ.1.length ∧ slots + bs = slz σ.1) (hcap : σ1.1.length ≤ b + R.cells ∧ slz σ1.1 ≤ bs + R.slots) {i a o n0 j0 : Nat} (hd : decode (mB k) pc = .ok (.invokespecial i, 3)) (hml2 : ML[a]? = some (o, i, 5, j0, n0)) (ho : o = mO k) (h1k : 1 ≤ mK k) (h : oOI (pc + 3) ls st σ = some (.inl (pc', ls', st', σ1))) (K : KKp E D A b bs (mL k) p l e R s m args below meth c QQ ws pc' ls' st' σ1) : W p l e R s m args below meth c H locs cells slots QQ (F0 m pc mls mst) := by
  obtain ⟨hx, hb, hml, hown, hts, hnw, hnm, hA, hro, hfr, hlo⟩ := C
  obtain ⟨hK, hP, hD, hS, hR, hL, hT⟩ := S
  subst ho
  unfold oOI at h
  split at h
  · rename_i x r
    split at h
    · rename_i hcs8
      obtain ⟨a1, r1, rfl, hv, h1⟩ := hT.ref
      unfold nx at h
      cases h
      have h8 := h1.cs
      refine W.objInit hx hb hown (hts _ (mem_allg (ml_mem hml2 (w := .methodLink (cn (mO k)) i Lib.objectInit) (by simp [mlw])) rfl)) (hts _ w_oii) (hts _ w_oic) (g := F0 m pc mls (.ref a1 :: r1)) rfl (by rw [hml]; exact hL.1.1) rfl hd (by omega) (by rw [h8]; show 2 * 0 + _ + 12 ≤ _; omega) ?_
      exact K H locs ws tys mls _ cells slots XT.rf ⟨hK, hP, hD, hS, hR, hL, h1⟩ hcs.1 hcs.2
    · cases h
  · cases h
