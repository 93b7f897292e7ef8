/-! the calls, and the soundness of the interpreter (printed by wip/whole/gen4.py) -/
set_option maxHeartbeats 1000000 in
theorem q_cv {p : Program} {l : Launch} {e : Env} {R : Room} {s : State} {m : MethodId} {args : Array Value} {below : List Frame} {meth : Method} {c : Code} {QQ : State → Prop} {D : va_G} {A : Nat → Prop} {E : EX0} {n k b bs pc : Nat} {ls : LS0} {st : List Value} {σ σ2 : SH} {H : Heap} {locs : List Loc} {ws : va_W} {tys : List (ClassId × FieldType)} {mls : Array Slot} {mst : List Value} {cells slots : Nat} {v : Option Value} {j : Nat} {as rr : List Value} {pc2 : Nat} (IH : GG E n) (C : FC k p R s m args meth c A E) (S : SS E D A s σ ls st H locs ws tys mls mst (mL k)) (hcs : cells + b = σ.1.length ∧ slots + bs = slz σ.1) (hcap : σ2.1.length ≤ b + R.cells ∧ slz σ2.1 ≤ bs + R.slots) (hgr : σ.1.length ≤ σ2.1.length ∧ slz σ.1 ≤ slz σ2.1) (hev : evF (exX E) n j 0 (entL (mL j) as) [] σ = some (v, σ2)) {a i o n0 : Nat} (hml2 : ML[a]? = some (o, i, 0, j, n0)) (ho : o = mO k) (hd : decode (mB k) pc = .ok (.invokevirtual i, 3)) (hj : j < 201) (hrk : mK j < mK k) (h : oCV j n0 (pc + 3) st σ = some (.inr (.inr (j, as, pc2, rr)))) (K : KKp E D A b bs (mL k) p l e R s m args below meth c QQ ws pc2 ls (psh v rr) σ2) : W p l e R s m args below meth c H locs cells slots QQ (F0 m pc mls mst) := by
  obtain ⟨hx, hb, hml, hown, hts, hnw, hnm, hA, hro, hfr, hlo⟩ := C
  obtain ⟨hK, hP, hD, hS, hR, hL, hT⟩ := S
  subst ho
  have hF := free_all hD hS hA
  obtain ⟨mc, hmc⟩ : ∃ mc, σ2.1.length = σ.1.length + mc := ⟨σ2.1.length - σ.1.length, by omega⟩
  obtain ⟨ms, hms⟩ : ∃ ms, slz σ2.1 = slz σ.1 + ms := ⟨slz σ2.1 - slz σ.1, by omega⟩
  obtain ⟨hcls, hmo, hmL, hpl, hy1, hy2⟩ := mn_at hj
  have hini : (Cond.initialized (mN j).cls).before args s = true := by
    rw [hcls]
    exact hts _ (wini_ok _ hmo)
  have hargs := List.all_eq_true.mp ml_args _ (List.mem_of_getElem? hml2)
  simp (config := { decide := true }) only [if_true, decide_eq_true_eq] at hargs
  have hroom : mK j + 1 ≤ R.frames ∧ 8 + (mL j + 11) + 43 * mK j ≤ R.locals := by omega
  have hcell : cells + mc ≤ R.cells ∧ slots + ms ≤ R.slots := by omega
  unfold oCV at h
  split at h
  · rename_i as1 bq r1 hp
    split at h
    · rename_i hcond
      obtain ⟨h8, hk2, hcw⟩ := hcond
      cases h
      obtain ⟨hl1, rfl⟩ := popA_spec hp
      obtain ⟨hb3, hb4⟩ := hk_spec hk2
      obtain ⟨hci, ad, fs, hw, -, -⟩ := hR.obj hb4
      obtain ⟨ma, mb, rfl, hma, hmb⟩ := hT.split
      obtain ⟨ab, mr, rfl, hvb, hrest⟩ := hmb.ref
      cases hvb.at hb3 hw
      have hSas : SR E ws (.ref bq :: as1) (.ref ad :: ma.reverse) := ⟨hvb, by have := hma.rev; rwa [List.reverse_reverse] at this⟩
      have hM := met_of IH hj hev l (D := D) (ws := ws) (tys := tys) (sz := H.size) hmc hms hR hSas hcw
      have hlen : ma.reverse.length = n0 := by
        have := hSas.2.len
        rw [this]; exact hl1
      have h8m := hrest.cs
      refine my_call (v := v) (va_runV (C := cn (mO j)) (Ts := ALLG) (own := cn (mO k)) ⟨hx, hb, hml, hown, hts⟩ hM ⟨callB_of n0 hts (goodC hj) rfl rfl rfl hini (hts _ (mem_allg (ml_mem hml2 (w := .methodLink (cn (mO k)) i (mN j)) (by simp [mlw])) rfl)) ⟨hy1, hy2, hargs⟩ hroom, hts _ (mem_allg (ml_mem hml2 (w := .instanceMethod (mN j)) (by simp [mlw])) rfl), hts _ (mem_allg (ml_mem hml2 (w := .selects (cn (mO j)) (mN j) (mN j)) (by simp [mlw])) rfl)⟩ ⟨blind0, by have := va_recv hK hP (cl_at hci) hw; rwa [clI_cn hci] at this, fun U hU hW => ⟨rfl, pp_at hK hP hD hS hro hnw hF U hU hW⟩⟩ rfl hlen hL.1.1 (by rw [List.reverse_reverse]) (lv_room (by rw [h8m]; exact h8)) hd hcell) hS (fun q _ z => hF q z) hF (fun u t H1 locs1 ht hvm hB hS1 => ?_)
      have hx1 := hB.2.1
      obtain ⟨hok, -, hP1, hK1, hD1, hR1⟩ := hB
      rw [ht] at hP1
      exact K H1 locs1 u.1 u.2 mls _ _ _ hx1 ⟨va_K.moved hvm.symm hK1, hP1, hD1.weaken (fun _ q _ z => hF q.1 z), hS1, hR1, hL.mono hx1, psh_SR hok (hrest.mono hx1)⟩ (by omega) (by omega)
    · cases h
  · cases h
set_option maxHeartbeats 1000000 in
theorem q_ci {p : Program} {l : Launch} {e : Env} {R : Room} {s : State} {m : MethodId} {args : Array Value} {below : List Frame} {meth : Method} {c : Code} {QQ : State → Prop} {D : va_G} {A : Nat → Prop} {E : EX0} {n k b bs pc : Nat} {ls : LS0} {st : List Value} {σ σ2 : SH} {H : Heap} {locs : List Loc} {ws : va_W} {tys : List (ClassId × FieldType)} {mls : Array Slot} {mst : List Value} {cells slots : Nat} {v : Option Value} {j : Nat} {as rr : List Value} {pc2 : Nat} (IH : GG E n) (C : FC k p R s m args meth c A E) (S : SS E D A s σ ls st H locs ws tys mls mst (mL k)) (hcs : cells + b = σ.1.length ∧ slots + bs = slz σ.1) (hcap : σ2.1.length ≤ b + R.cells ∧ slz σ2.1 ≤ bs + R.slots) (hgr : σ.1.length ≤ σ2.1.length ∧ slz σ.1 ≤ slz σ2.1) (hev : evF (exX E) n j 0 (entL (mL j) as) [] σ = some (v, σ2)) {a i o n0 : Nat} (hml2 : ML[a]? = some (o, i, 2, j, n0)) (ho : o = mO k) (hd : decode (mB k) pc = .ok (.invokespecial i, 3)) (hj : j < 201) (hrk : mK j < mK k) (h : oCV j n0 (pc + 3) st σ = some (.inr (.inr (j, as, pc2, rr)))) (K : KKp E D A b bs (mL k) p l e R s m args below meth c QQ ws pc2 ls (psh v rr) σ2) : W p l e R s m args below meth c H locs cells slots QQ (F0 m pc mls mst) := by
  obtain ⟨hx, hb, hml, hown, hts, hnw, hnm, hA, hro, hfr, hlo⟩ := C
  obtain ⟨hK, hP, hD, hS, hR, hL, hT⟩ := S
  subst ho
  have hF := free_all hD hS hA
  obtain ⟨mc, hmc⟩ : ∃ mc, σ2.1.length = σ.1.length + mc := ⟨σ2.1.length - σ.1.length, by omega⟩
  obtain ⟨ms, hms⟩ : ∃ ms, slz σ2.1 = slz σ.1 + ms := ⟨slz σ2.1 - slz σ.1, by omega⟩
  obtain ⟨hcls, hmo, hmL, hpl, hy1, hy2⟩ := mn_at hj
  have hini : (Cond.initialized (mN j).cls).before args s = true := by
    rw [hcls]
    exact hts _ (wini_ok _ hmo)
  have hargs := List.all_eq_true.mp ml_args _ (List.mem_of_getElem? hml2)
  simp (config := { decide := true }) only [if_true, decide_eq_true_eq] at hargs
  have hroom : mK j + 1 ≤ R.frames ∧ 8 + (mL j + 11) + 43 * mK j ≤ R.locals := by omega
  have hcell : cells + mc ≤ R.cells ∧ slots + ms ≤ R.slots := by omega
  have hin := List.all_eq_true.mp ml_init _ (List.mem_of_getElem? hml2)
  simp (config := { decide := true }) only [if_true, Bool.and_eq_true, decide_eq_true_eq] at hin
  obtain ⟨hin1, hin2⟩ := hin
  have hwc : wCd j :: ALLG = Cond.code (mN j) (mB j) (mL j) none :: ALLG := by
    unfold wCd
    rw [hin2]
  unfold oCV at h
  split at h
  · rename_i as1 bq r1 hp
    split at h
    · rename_i hcond
      obtain ⟨h8, hk2, hcw⟩ := hcond
      cases h
      obtain ⟨hl1, rfl⟩ := popA_spec hp
      obtain ⟨hb3, hb4⟩ := hk_spec hk2
      obtain ⟨hci, ad, fs, hw, -, -⟩ := hR.obj hb4
      obtain ⟨ma, mb, rfl, hma, hmb⟩ := hT.split
      obtain ⟨ab, mr, rfl, hvb, hrest⟩ := hmb.ref
      cases hvb.at hb3 hw
      have hSas : SR E ws (.ref bq :: as1) (.ref ad :: ma.reverse) := ⟨hvb, by have := hma.rev; rwa [List.reverse_reverse] at this⟩
      have hM := met_of IH hj hev l (D := D) (ws := ws) (tys := tys) (sz := H.size) hmc hms hR hSas hcw
      have hlen : ma.reverse.length = n0 := by
        have := hSas.2.len
        rw [this]; exact hl1
      have h8m := hrest.cs
      refine my_call (v := v) (va_runI (Ts := ALLG) (own := cn (mO k)) ⟨hx, hb, hml, hown, hts⟩ hM ⟨callB_of n0 hts (goodC hj) hwc rfl rfl hini (hts _ (mem_allg (ml_mem hml2 (w := .methodLink (cn (mO k)) i (mN j)) (by simp [mlw])) rfl)) ⟨hy1, hy2, hargs⟩ hroom, hin1, hts _ (mem_allg (ml_mem hml2 (w := .instanceMethod (mN j)) (by simp [mlw])) rfl)⟩ ⟨blind0, fun U hU hW => ⟨rfl, pp_at hK hP hD hS hro hnw hF U hU hW⟩⟩ rfl hlen hL.1.1 (by rw [List.reverse_reverse]) (lv_room (by rw [h8m]; exact h8)) hd hcell) hS (fun q _ z => hF q z) hF (fun u t H1 locs1 ht hvm hB hS1 => ?_)
      have hx1 := hB.2.1
      obtain ⟨hok, -, hP1, hK1, hD1, hR1⟩ := hB
      rw [ht] at hP1
      exact K H1 locs1 u.1 u.2 mls _ _ _ hx1 ⟨va_K.moved hvm.symm hK1, hP1, hD1.weaken (fun _ q _ z => hF q.1 z), hS1, hR1, hL.mono hx1, psh_SR hok (hrest.mono hx1)⟩ (by omega) (by omega)
    · cases h
  · cases h
set_option maxHeartbeats 1000000 in
theorem q_cin {p : Program} {l : Launch} {e : Env} {R : Room} {s : State} {m : MethodId} {args : Array Value} {below : List Frame} {meth : Method} {c : Code} {QQ : State → Prop} {D : va_G} {A : Nat → Prop} {E : EX0} {n k b bs pc : Nat} {ls : LS0} {st : List Value} {σ σ2 : SH} {H : Heap} {locs : List Loc} {ws : va_W} {tys : List (ClassId × FieldType)} {mls : Array Slot} {mst : List Value} {cells slots : Nat} {v : Option Value} {j : Nat} {as rr : List Value} {pc2 : Nat} (IH : GG E n) (C : FC k p R s m args meth c A E) (S : SS E D A s σ ls st H locs ws tys mls mst (mL k)) (hcs : cells + b = σ.1.length ∧ slots + bs = slz σ.1) (hcap : σ2.1.length ≤ b + R.cells ∧ slz σ2.1 ≤ bs + R.slots) (hgr : σ.1.length ≤ σ2.1.length ∧ slz σ.1 ≤ slz σ2.1) (hev : evF (exX E) n j 0 (entL (mL j) as) [] σ = some (v, σ2)) {a i o n0 : Nat} (hml2 : ML[a]? = some (o, i, 3, j, n0)) (ho : o = mO k) (hd : decode (mB k) pc = .ok (.invokespecial i, 3)) (hj : j < 201) (hrk : mK j < mK k) (h : oCV j n0 (pc + 3) st σ = some (.inr (.inr (j, as, pc2, rr)))) (K : KKp E D A b bs (mL k) p l e R s m args below meth c QQ ws pc2 ls (psh v rr) σ2) : W p l e R s m args below meth c H locs cells slots QQ (F0 m pc mls mst) := by
  obtain ⟨hx, hb, hml, hown, hts, hnw, hnm, hA, hro, hfr, hlo⟩ := C
  obtain ⟨hK, hP, hD, hS, hR, hL, hT⟩ := S
  subst ho
  have hF := free_all hD hS hA
  obtain ⟨mc, hmc⟩ : ∃ mc, σ2.1.length = σ.1.length + mc := ⟨σ2.1.length - σ.1.length, by omega⟩
  obtain ⟨ms, hms⟩ : ∃ ms, slz σ2.1 = slz σ.1 + ms := ⟨slz σ2.1 - slz σ.1, by omega⟩
  obtain ⟨hcls, hmo, hmL, hpl, hy1, hy2⟩ := mn_at hj
  have hini : (Cond.initialized (mN j).cls).before args s = true := by
    rw [hcls]
    exact hts _ (wini_ok _ hmo)
  have hargs := List.all_eq_true.mp ml_args _ (List.mem_of_getElem? hml2)
  simp (config := { decide := true }) only [if_true, decide_eq_true_eq] at hargs
  have hroom : mK j + 1 ≤ R.frames ∧ 8 + (mL j + 11) + 43 * mK j ≤ R.locals := by omega
  have hcell : cells + mc ≤ R.cells ∧ slots + ms ≤ R.slots := by omega
  have hin := List.all_eq_true.mp ml_init _ (List.mem_of_getElem? hml2)
  simp (config := { decide := true }) only [if_true, Bool.and_eq_true, decide_eq_true_eq] at hin
  obtain ⟨hin1, hin2⟩ := hin
  have hwc : wCd j :: ALLG = Cond.code (mN j) (mB j) (mL j) none :: ALLG := by
    unfold wCd
    rw [hin2]
  unfold oCV at h
  split at h
  · rename_i as1 bq r1 hp
    split at h
    · rename_i hcond
      obtain ⟨h8, hk2, hcw⟩ := hcond
      cases h
      obtain ⟨hl1, rfl⟩ := popA_spec hp
      obtain ⟨hb3, hb4⟩ := hk_spec hk2
      obtain ⟨hci, ad, fs, hw, -, -⟩ := hR.obj hb4
      obtain ⟨ma, mb, rfl, hma, hmb⟩ := hT.split
      obtain ⟨ab, mr, rfl, hvb, hrest⟩ := hmb.ref
      cases hvb.at hb3 hw
      have hSas : SR E ws (.ref bq :: as1) (.ref ad :: ma.reverse) := ⟨hvb, by have := hma.rev; rwa [List.reverse_reverse] at this⟩
      have hM := met_of IH hj hev l (D := D) (ws := ws) (tys := tys) (sz := H.size) hmc hms hR hSas hcw
      have hlen : ma.reverse.length = n0 := by
        have := hSas.2.len
        rw [this]; exact hl1
      have h8m := hrest.cs
      refine my_call (v := v) (va_runIN (Ts := ALLG) (own := cn (mO k)) (host := "SmellInTheHouse") ⟨hx, hb, hml, hown, hts⟩ hM ⟨va_cnB n0 hts (goodC hj) hwc rfl rfl (hnw _ (mem_nest (ml_mem hml2 (w := .methodLinkNest (cn (mO k)) i (mN j) "SmellInTheHouse") (by simp [mlw])) rfl)) hini ⟨hy1, hy2, hargs⟩ hroom, hin1, hts _ (mem_allg (ml_mem hml2 (w := .instanceMethod (mN j)) (by simp [mlw])) rfl)⟩ ⟨blind0, fun U hU hW => ⟨rfl, pp_at hK hP hD hS hro hnw hF U hU hW⟩⟩ rfl hlen hL.1.1 (by rw [List.reverse_reverse]) (lv_room (by rw [h8m]; exact h8)) hd hcell) hS (fun q _ z => hF q z) hF (fun u t H1 locs1 ht hvm hB hS1 => ?_)
      have hx1 := hB.2.1
      obtain ⟨hok, -, hP1, hK1, hD1, hR1⟩ := hB
      rw [ht] at hP1
      exact K H1 locs1 u.1 u.2 mls _ _ _ hx1 ⟨va_K.moved hvm.symm hK1, hP1, hD1.weaken (fun _ q _ z => hF q.1 z), hS1, hR1, hL.mono hx1, psh_SR hok (hrest.mono hx1)⟩ (by omega) (by omega)
    · cases h
  · cases h
set_option maxHeartbeats 1000000 in
theorem q_cs {p : Program} {l : Launch} {e : Env} {R : Room} {s : State} {m : MethodId} {args : Array Value} {below : List Frame} {meth : Method} {c : Code} {QQ : State → Prop} {D : va_G} {A : Nat → Prop} {E : EX0} {n k b bs pc : Nat} {ls : LS0} {st : List Value} {σ σ2 : SH} {H : Heap} {locs : List Loc} {ws : va_W} {tys : List (ClassId × FieldType)} {mls : Array Slot} {mst : List Value} {cells slots : Nat} {v : Option Value} {j : Nat} {as rr : List Value} {pc2 : Nat} (IH : GG E n) (C : FC k p R s m args meth c A E) (S : SS E D A s σ ls st H locs ws tys mls mst (mL k)) (hcs : cells + b = σ.1.length ∧ slots + bs = slz σ.1) (hcap : σ2.1.length ≤ b + R.cells ∧ slz σ2.1 ≤ bs + R.slots) (hgr : σ.1.length ≤ σ2.1.length ∧ slz σ.1 ≤ slz σ2.1) (hev : evF (exX E) n j 0 (entL (mL j) as) [] σ = some (v, σ2)) {a i o n0 : Nat} (hml2 : ML[a]? = some (o, i, 1, j, n0)) (ho : o = mO k) (hd : decode (mB k) pc = .ok (.invokestatic i, 3)) (hj : j < 201) (hrk : mK j < mK k) (h : oCS j n0 (pc + 3) st = some (.inr (.inr (j, as, pc2, rr)))) (K : KKp E D A b bs (mL k) p l e R s m args below meth c QQ ws pc2 ls (psh v rr) σ2) : W p l e R s m args below meth c H locs cells slots QQ (F0 m pc mls mst) := by
  obtain ⟨hx, hb, hml, hown, hts, hnw, hnm, hA, hro, hfr, hlo⟩ := C
  obtain ⟨hK, hP, hD, hS, hR, hL, hT⟩ := S
  subst ho
  have hF := free_all hD hS hA
  obtain ⟨mc, hmc⟩ : ∃ mc, σ2.1.length = σ.1.length + mc := ⟨σ2.1.length - σ.1.length, by omega⟩
  obtain ⟨ms, hms⟩ : ∃ ms, slz σ2.1 = slz σ.1 + ms := ⟨slz σ2.1 - slz σ.1, by omega⟩
  obtain ⟨hcls, hmo, hmL, hpl, hy1, hy2⟩ := mn_at hj
  have hini : (Cond.initialized (mN j).cls).before args s = true := by
    rw [hcls]
    exact hts _ (wini_ok _ hmo)
  have hargs := List.all_eq_true.mp ml_args _ (List.mem_of_getElem? hml2)
  simp (config := { decide := true }) only [if_true, decide_eq_true_eq] at hargs
  have hroom : mK j + 1 ≤ R.frames ∧ 8 + (mL j + 11) + 43 * mK j ≤ R.locals := by omega
  have hcell : cells + mc ≤ R.cells ∧ slots + ms ≤ R.slots := by omega
  unfold oCS at h
  split at h
  · rename_i as1 r1 hp
    split at h
    · rename_i hcond
      obtain ⟨h8, hcw⟩ := hcond
      cases h
      obtain ⟨hl1, rfl⟩ := popA_spec hp
      obtain ⟨ma, mr, rfl, hma, hrest⟩ := hT.split
      have hSas : SR E ws as ma.reverse := by have := hma.rev; rwa [List.reverse_reverse] at this
      have hM := met_of IH hj hev l (D := D) (ws := ws) (tys := tys) (sz := H.size) hmc hms hR hSas hcw
      have hlen : ma.reverse.length = n0 := by
        rw [hSas.len]; exact hl1
      have h8m := hrest.cs
      refine my_call (v := v) (va_runS (Ts := ALLG) (own := cn (mO k)) ⟨hx, hb, hml, hown, hts⟩ hM ⟨callB_of n0 hts (goodC hj) rfl rfl rfl hini (hts _ (mem_allg (ml_mem hml2 (w := .methodLink (cn (mO k)) i (mN j)) (by simp [mlw])) rfl)) ⟨hy1, hy2, hargs⟩ hroom, hts _ (mem_allg (ml_mem hml2 (w := .static (mN j)) (by simp [mlw])) rfl)⟩ ⟨blind0, fun U hU hW => ⟨rfl, pp_at hK hP hD hS hro hnw hF U hU hW⟩⟩ rfl hlen hL.1.1 (by rw [List.reverse_reverse]) (lv_room (by rw [h8m]; exact h8)) hd hcell) hS (fun q _ z => hF q z) hF (fun u t H1 locs1 ht hvm hB hS1 => ?_)
      have hx1 := hB.2.1
      obtain ⟨hok, -, hP1, hK1, hD1, hR1⟩ := hB
      rw [ht] at hP1
      exact K H1 locs1 u.1 u.2 mls _ _ _ hx1 ⟨va_K.moved hvm.symm hK1, hP1, hD1.weaken (fun _ q _ z => hF q.1 z), hS1, hR1, hL.mono hx1, psh_SR hok (hrest.mono hx1)⟩ (by omega) (by omega)
    · cases h
  · cases h
set_option maxHeartbeats 1000000 in
theorem q_csn {p : Program} {l : Launch} {e : Env} {R : Room} {s : State} {m : MethodId} {args : Array Value} {below : List Frame} {meth : Method} {c : Code} {QQ : State → Prop} {D : va_G} {A : Nat → Prop} {E : EX0} {n k b bs pc : Nat} {ls : LS0} {st : List Value} {σ σ2 : SH} {H : Heap} {locs : List Loc} {ws : va_W} {tys : List (ClassId × FieldType)} {mls : Array Slot} {mst : List Value} {cells slots : Nat} {v : Option Value} {j : Nat} {as rr : List Value} {pc2 : Nat} (IH : GG E n) (C : FC k p R s m args meth c A E) (S : SS E D A s σ ls st H locs ws tys mls mst (mL k)) (hcs : cells + b = σ.1.length ∧ slots + bs = slz σ.1) (hcap : σ2.1.length ≤ b + R.cells ∧ slz σ2.1 ≤ bs + R.slots) (hgr : σ.1.length ≤ σ2.1.length ∧ slz σ.1 ≤ slz σ2.1) (hev : evF (exX E) n j 0 (entL (mL j) as) [] σ = some (v, σ2)) {a i o n0 : Nat} (hml2 : ML[a]? = some (o, i, 4, j, n0)) (ho : o = mO k) (hd : decode (mB k) pc = .ok (.invokestatic i, 3)) (hj : j < 201) (hrk : mK j < mK k) (h : oCS j n0 (pc + 3) st = some (.inr (.inr (j, as, pc2, rr)))) (K : KKp E D A b bs (mL k) p l e R s m args below meth c QQ ws pc2 ls (psh v rr) σ2) : W p l e R s m args below meth c H locs cells slots QQ (F0 m pc mls mst) := by
  obtain ⟨hx, hb, hml, hown, hts, hnw, hnm, hA, hro, hfr, hlo⟩ := C
  obtain ⟨hK, hP, hD, hS, hR, hL, hT⟩ := S
  subst ho
  have hF := free_all hD hS hA
  obtain ⟨mc, hmc⟩ : ∃ mc, σ2.1.length = σ.1.length + mc := ⟨σ2.1.length - σ.1.length, by omega⟩
  obtain ⟨ms, hms⟩ : ∃ ms, slz σ2.1 = slz σ.1 + ms := ⟨slz σ2.1 - slz σ.1, by omega⟩
  obtain ⟨hcls, hmo, hmL, hpl, hy1, hy2⟩ := mn_at hj
  have hini : (Cond.initialized (mN j).cls).before args s = true := by
    rw [hcls]
    exact hts _ (wini_ok _ hmo)
  have hargs := List.all_eq_true.mp ml_args _ (List.mem_of_getElem? hml2)
  simp (config := { decide := true }) only [if_true, decide_eq_true_eq] at hargs
  have hroom : mK j + 1 ≤ R.frames ∧ 8 + (mL j + 11) + 43 * mK j ≤ R.locals := by omega
  have hcell : cells + mc ≤ R.cells ∧ slots + ms ≤ R.slots := by omega
  unfold oCS at h
  split at h
  · rename_i as1 r1 hp
    split at h
    · rename_i hcond
      obtain ⟨h8, hcw⟩ := hcond
      cases h
      obtain ⟨hl1, rfl⟩ := popA_spec hp
      obtain ⟨ma, mr, rfl, hma, hrest⟩ := hT.split
      have hSas : SR E ws as ma.reverse := by have := hma.rev; rwa [List.reverse_reverse] at this
      have hM := met_of IH hj hev l (D := D) (ws := ws) (tys := tys) (sz := H.size) hmc hms hR hSas hcw
      have hlen : ma.reverse.length = n0 := by
        rw [hSas.len]; exact hl1
      have h8m := hrest.cs
      refine my_call (v := v) (va_runSN (Ts := ALLG) (own := cn (mO k)) (host := "SmellInTheHouse") ⟨hx, hb, hml, hown, hts⟩ hM ⟨va_cnB n0 hts (goodC hj) rfl rfl rfl (hnw _ (mem_nest (ml_mem hml2 (w := .methodLinkNest (cn (mO k)) i (mN j) "SmellInTheHouse") (by simp [mlw])) rfl)) hini ⟨hy1, hy2, hargs⟩ hroom, hts _ (mem_allg (ml_mem hml2 (w := .static (mN j)) (by simp [mlw])) rfl), trivial⟩ ⟨blind0, fun U hU hW => ⟨rfl, pp_at hK hP hD hS hro hnw hF U hU hW⟩⟩ rfl hlen hL.1.1 (by rw [List.reverse_reverse]) (lv_room (by rw [h8m]; exact h8)) hd hcell) hS (fun q _ z => hF q z) hF (fun u t H1 locs1 ht hvm hB hS1 => ?_)
      have hx1 := hB.2.1
      obtain ⟨hok, -, hP1, hK1, hD1, hR1⟩ := hB
      rw [ht] at hP1
      exact K H1 locs1 u.1 u.2 mls _ _ _ hx1 ⟨va_K.moved hvm.symm hK1, hP1, hD1.weaken (fun _ q _ z => hF q.1 z), hS1, hR1, hL.mono hx1, psh_SR hok (hrest.mono hx1)⟩ (by omega) (by omega)
    · cases h
  · cases h
theorem swX_nx {x : Int32} {d : Nat} {ls : LS0} {st : List Value} {σ : SH} : ∀ tb : List (Int32 × Nat), ∃ t, swX x d ls st σ tb = nx t ls st σ
  | [] => ⟨d, rfl⟩
  | (k, t) :: r => by
    unfold swX
    split
    · exact ⟨t, rfl⟩
    · exact swX_nx r
/-- an instruction that returns, one that calls -/
def isRet : Instr → Bool
  | .ireturn | .lreturn | .return_ => true
  | _ => false
def isInv : Instr → Bool
  | .invokevirtual _ | .invokestatic _ | .invokespecial _ => true
  | _ => false
theorem ret_kind {X : SX} {k pc : Nat} {r : RI} {ls : LS0} {st : List Value} {σ : SH} {v : Option Value} (h : stepI X k pc r ls st σ = some (.inr (.inl v))) : isRet r.1 = true := by
  obtain ⟨ins, len, a, v0, tb⟩ := r
  cases ins
  case newarray at0 =>
    cases at0 <;> first | (cases h; done) | (simp only [stepI, nx, oILd, oLLd, oALd, oISt, oLSt, oASt, oInc, oI2, oL2, oIDiv, oLDiv, oNeg, oI2L, oLcmp, oDup, oDup2, oPop, oPop2, oIf, oIfI, oSw, oGf, oPf, oNew, oNewI, oNewL, oLen, oIald, oLald, oIast, oLast, oCpy, oMax, oMin, oOI, oCV, oCS, oIret, oZret, oLret, oVret] at h; (repeat' split at h) <;> cases h)
  case tableswitch =>
    simp only [stepI, oSw] at h
    split at h
    · obtain ⟨t, ht⟩ := swX_nx (x := _) (d := _) (ls := _) (st := _) (σ := _) tb
      rw [ht] at h
      unfold nx at h
      cases h
    · cases h
  all_goals first
    | rfl
    | (cases h; done)
    | (exfalso; simp only [stepI, nx, oILd, oLLd, oALd, oISt, oLSt, oASt, oInc, oI2, oL2, oIDiv, oLDiv, oNeg, oI2L, oLcmp, oDup, oDup2, oPop, oPop2, oIf, oIfI, oSw, oGf, oPf, oNew, oNewI, oNewL, oLen, oIald, oLald, oIast, oLast, oCpy, oMax, oMin, oOI, oCV, oCS, oIret, oZret, oLret, oVret] at h; done)
    | (exfalso; simp only [stepI, nx, oILd, oLLd, oALd, oISt, oLSt, oASt, oInc, oI2, oL2, oIDiv, oLDiv, oNeg, oI2L, oLcmp, oDup, oDup2, oPop, oPop2, oIf, oIfI, oSw, oGf, oPf, oNew, oNewI, oNewL, oLen, oIald, oLald, oIast, oLast, oCpy, oMax, oMin, oOI, oCV, oCS, oIret, oZret, oLret, oVret] at h; (repeat' split at h) <;> cases h)
theorem inv_kind {X : SX} {k pc : Nat} {r : RI} {ls : LS0} {st : List Value} {σ : SH} {x : Nat × List Value × Nat × List Value} (h : stepI X k pc r ls st σ = some (.inr (.inr x))) : isInv r.1 = true := by
  obtain ⟨ins, len, a, v0, tb⟩ := r
  cases ins
  case newarray at0 =>
    cases at0 <;> first | (cases h; done) | (simp only [stepI, nx, oILd, oLLd, oALd, oISt, oLSt, oASt, oInc, oI2, oL2, oIDiv, oLDiv, oNeg, oI2L, oLcmp, oDup, oDup2, oPop, oPop2, oIf, oIfI, oSw, oGf, oPf, oNew, oNewI, oNewL, oLen, oIald, oLald, oIast, oLast, oCpy, oMax, oMin, oOI, oCV, oCS, oIret, oZret, oLret, oVret] at h; (repeat' split at h) <;> cases h)
  case tableswitch =>
    simp only [stepI, oSw] at h
    split at h
    · obtain ⟨t, ht⟩ := swX_nx (x := _) (d := _) (ls := _) (st := _) (σ := _) tb
      rw [ht] at h
      unfold nx at h
      cases h
    · cases h
  all_goals first
    | rfl
    | (cases h; done)
    | (exfalso; simp only [stepI, nx, oILd, oLLd, oALd, oISt, oLSt, oASt, oInc, oI2, oL2, oIDiv, oLDiv, oNeg, oI2L, oLcmp, oDup, oDup2, oPop, oPop2, oIf, oIfI, oSw, oGf, oPf, oNew, oNewI, oNewL, oLen, oIald, oLald, oIast, oLast, oCpy, oMax, oMin, oOI, oCV, oCS, oIret, oZret, oLret, oVret] at h; done)
    | (exfalso; simp only [stepI, nx, oILd, oLLd, oALd, oISt, oLSt, oASt, oInc, oI2, oL2, oIDiv, oLDiv, oNeg, oI2L, oLcmp, oDup, oDup2, oPop, oPop2, oIf, oIfI, oSw, oGf, oPf, oNew, oNewI, oNewL, oLen, oIald, oLald, oIast, oLast, oCpy, oMax, oMin, oOI, oCV, oCS, oIret, oZret, oLret, oVret] at h; (repeat' split at h) <;> cases h)
theorem grow {X : SX} {k pc pc' : Nat} {r : RI} {ls ls' : LS0} {st st' : List Value} {σ σ1 : SH} (h : stepI X k pc r ls st σ = some (.inl (pc', ls', st', σ1))) : ∃ t, σ1.1 = σ.1 ++ t := by
  obtain ⟨ins, len, a, v0, tb⟩ := r
  cases ins
  case newarray at0 =>
    cases at0 <;> first | (cases h; done) | (simp only [stepI, nx, oILd, oLLd, oALd, oISt, oLSt, oASt, oInc, oI2, oL2, oIDiv, oLDiv, oNeg, oI2L, oLcmp, oDup, oDup2, oPop, oPop2, oIf, oIfI, oSw, oGf, oPf, oNew, oNewI, oNewL, oLen, oIald, oLald, oIast, oLast, oCpy, oMax, oMin, oOI, oCV, oCS, oIret, oZret, oLret, oVret] at h; (repeat' split at h) <;> first | (cases h; done) | (cases h; exact ⟨_, rfl⟩))
  case tableswitch =>
    simp only [stepI, oSw] at h
    split at h
    · obtain ⟨t, ht⟩ := swX_nx (x := _) (d := _) (ls := _) (st := _) (σ := _) tb
      rw [ht] at h
      unfold nx at h
      cases h
      exact ⟨[], (List.append_nil _).symm⟩
    · cases h
  all_goals first
    | (cases h; done)
    | (simp only [stepI, nx, oILd, oLLd, oALd, oISt, oLSt, oASt, oInc, oI2, oL2, oIDiv, oLDiv, oNeg, oI2L, oLcmp, oDup, oDup2, oPop, oPop2, oIf, oIfI, oSw, oGf, oPf, oNew, oNewI, oNewL, oLen, oIald, oLald, oIast, oLast, oCpy, oMax, oMin, oOI, oCV, oCS, oIret, oZret, oLret, oVret] at h; done)
    | (simp only [stepI, nx, oILd, oLLd, oALd, oISt, oLSt, oASt, oInc, oI2, oL2, oIDiv, oLDiv, oNeg, oI2L, oLcmp, oDup, oDup2, oPop, oPop2, oIf, oIfI, oSw, oGf, oPf, oNew, oNewI, oNewL, oLen, oIald, oLald, oIast, oLast, oCpy, oMax, oMin, oOI, oCV, oCS, oIret, oZret, oLret, oVret] at h; (repeat' split at h) <;> first | (cases h; done) | (cases h; exact ⟨[], (List.append_nil _).symm⟩) | (cases h; exact ⟨_, rfl⟩))
theorem evF_grow (X : SX) : ∀ (n k pc : Nat) (ls : LS0) (st : List Value) (σ : SH) (v : Option Value) (σ2 : SH), evF X n k pc ls st σ = some (v, σ2) → σ.1.length ≤ σ2.1.length ∧ slz σ.1 ≤ slz σ2.1 := by
  intro n
  induction n with
  | zero => intro k pc ls st σ v σ2 h; cases h
  | succ n ih =>
    intro k pc ls st σ v σ2 h
    unfold evF at h
    split at h
    · cases h
    · rename_i h1
      have h2 := ih _ _ _ _ _ _ _ h
      unfold step at h1
      split at h1
      · obtain ⟨t, ht⟩ := grow h1
        rw [ht, List.length_append, slz_app] at h2
        omega
      · cases h1
    · cases h; exact ⟨Nat.le_refl _, Nat.le_refl _⟩
    · split at h
      · cases h
      · rename_i h1
        have h2 := ih _ _ _ _ _ _ _ h1
        have h3 := ih _ _ _ _ _ _ _ h
        omega
theorem q_ret {s : State} {D : va_G} {A : Nat → Prop} {E : EX0} {k pc : Nat} {ls : LS0} {st : List Value} {σ : SH} {H : Heap} {locs : List Loc} {ws : va_W} {tys : List (ClassId × FieldType)} {mls : Array Slot} {mst : List Value} {v : Option Value} {r : RI} (S : SS E D A s σ ls st H locs ws tys mls mst (mL k)) (hv0 : vI k pc r = true) (h : stepI (exX E) k pc r ls st σ = some (.inr (.inl v))) : RT k v pc mst := by
  have hk := ret_kind h
  obtain ⟨ins, len, a, v0, tb⟩ := r
  obtain ⟨hd, hl, -⟩ := vI_spec hv0
  obtain ⟨-, -, -, -, -, -, hT⟩ := S
  cases ins
  case ireturn =>
    have hl2 := hl.resolve_left (by rintro ⟨⟩)
    dsimp only [lnI] at hl2 hd
    subst hl2
    simp only [stepI] at h
    split at h
    · rename_i hr
      unfold oIret at h
      split at h
      · cases h
        obtain ⟨r1, rfl, h1⟩ := hT.int
        cases h1.nil
        exact Or.inl ⟨hr, _, rfl, rfl, hd⟩
      · cases h
    · rename_i hr
      unfold oZret at h
      split at h
      · split at h
        · rename_i hx
          cases h
          obtain ⟨r1, rfl, h1⟩ := hT.int
          cases h1.nil
          exact Or.inr (Or.inl ⟨hr, _, hx, rfl, rfl, hd⟩)
        · cases h
      · cases h
    · cases h
  case lreturn =>
    have hl2 := hl.resolve_left (by rintro ⟨⟩)
    dsimp only [lnI] at hl2 hd
    subst hl2
    simp only [stepI] at h
    split at h
    · rename_i hr
      unfold oLret at h
      split at h
      · cases h
        obtain ⟨r1, rfl, h1⟩ := hT.long
        cases h1.nil
        exact Or.inr (Or.inr (Or.inl ⟨hr, _, rfl, rfl, hd⟩))
      · cases h
    · cases h
  case return_ =>
    have hl2 := hl.resolve_left (by rintro ⟨⟩)
    dsimp only [lnI] at hl2 hd
    subst hl2
    simp only [stepI] at h
    split at h
    · rename_i hr
      unfold oVret at h
      split at h
      · cases h
        cases hT.nil
        exact Or.inr (Or.inr (Or.inr ⟨hr, rfl, rfl, hd⟩))
      · cases h
    · cases h
  all_goals cases hk
theorem q_inv {p : Program} {l : Launch} {e : Env} {R : Room} {s : State} {m : MethodId} {args : Array Value} {below : List Frame} {meth : Method} {c : Code} {QQ : State → Prop} {D : va_G} {A : Nat → Prop} {E : EX0} {n k b bs pc : Nat} {ls : LS0} {st : List Value} {σ σ2 : SH} {H : Heap} {locs : List Loc} {ws : va_W} {tys : List (ClassId × FieldType)} {mls : Array Slot} {mst : List Value} {cells slots : Nat} {v : Option Value} {j : Nat} {as rr : List Value} {pc2 : Nat} (IH : GG E n) (C : FC k p R s m args meth c A E) (S : SS E D A s σ ls st H locs ws tys mls mst (mL k)) (hcs : cells + b = σ.1.length ∧ slots + bs = slz σ.1) (hcap : σ2.1.length ≤ b + R.cells ∧ slz σ2.1 ≤ bs + R.slots) (hgr : σ.1.length ≤ σ2.1.length ∧ slz σ.1 ≤ slz σ2.1) (hev : evF (exX E) n j 0 (entL (mL j) as) [] σ = some (v, σ2)) {r : RI} (hv0 : vI k pc r = true) (h : stepI (exX E) k pc r ls st σ = some (.inr (.inr (j, as, pc2, rr)))) (K : KKp E D A b bs (mL k) p l e R s m args below meth c QQ ws pc2 ls (psh v rr) σ2) : W p l e R s m args below meth c H locs cells slots QQ (F0 m pc mls mst) := by
  have hk := inv_kind h
  obtain ⟨ins, len, a, v0, tb⟩ := r
  obtain ⟨hd, hl, hv⟩ := vI_spec hv0
  cases ins
  case invokevirtual i =>
    have hl2 := hl.resolve_left (by rintro ⟨⟩)
    dsimp only [lnI] at hl2 hd
    subst hl2
    simp only [stepI] at h
    simp only [vL] at hv
    split at h
    · rename_i o0 i0 kd0 j0 n0 he
      rw [he] at hv
      simp only [Bool.and_eq_true, decide_eq_true_eq] at hv
      obtain ⟨⟨⟨⟨e1, e2⟩, e3⟩, e4⟩, e5⟩ := hv
      have e1 := Nat.eq_of_beq_eq_true e1
      have e2 := Nat.eq_of_beq_eq_true e2
      have e3 := Nat.eq_of_beq_eq_true e3
      subst e2; subst e3
      have ej : j = j0 := by
        unfold oCV at h
        split at h
        · split at h
          · cases h; rfl
          · cases h
        · cases h
      subst ej
      exact q_cv IH C S hcs hcap hgr hev he e1 hd e5 e4 h K
    · cases h
  case invokestatic i =>
    have hl2 := hl.resolve_left (by rintro ⟨⟩)
    dsimp only [lnI] at hl2 hd
    subst hl2
    simp only [stepI] at h
    simp only [vL] at hv
    split at h
    · unfold oCpy at h; (repeat' split at h) <;> cases h
    · unfold oMax at h; (repeat' split at h) <;> cases h
    · unfold oMin at h; (repeat' split at h) <;> cases h
    · rename_i o0 i0 kd0 j0 n0 g6 g7 g8 he
      rw [he] at hv
      simp only [Bool.and_eq_true] at hv
      obtain ⟨⟨e1, e2⟩, e3⟩ := hv
      have e1 := Nat.eq_of_beq_eq_true e1
      have e2 := Nat.eq_of_beq_eq_true e2
      subst e2
      have ej : j = j0 := by
        unfold oCS at h
        split at h
        · split at h
          · cases h; rfl
          · cases h
        · cases h
      subst ej
      split at e3
      · rename_i hkd
        simp only [Bool.and_eq_true, decide_eq_true_eq] at e3
        rcases hkd with rfl | rfl
        · exact q_cs IH C S hcs hcap hgr hev he e1 hd e3.2 e3.1 h K
        · exact q_csn IH C S hcs hcap hgr hev he e1 hd e3.2 e3.1 h K
      · simp only [Bool.and_eq_true, Bool.or_eq_true] at e3
        rcases e3.1 with (z | z) | z
        · have := Nat.eq_of_beq_eq_true z; subst this; exact (g6 rfl).elim
        · have := Nat.eq_of_beq_eq_true z; subst this; exact (g7 rfl).elim
        · have := Nat.eq_of_beq_eq_true z; subst this; exact (g8 rfl).elim
    · cases h
  case invokespecial i =>
    have hl2 := hl.resolve_left (by rintro ⟨⟩)
    dsimp only [lnI] at hl2 hd
    subst hl2
    simp only [stepI] at h
    simp only [vL] at hv
    split at h
    · unfold oOI at h; (repeat' split at h) <;> cases h
    · rename_i o0 i0 kd0 j0 n0 g5 he
      rw [he] at hv
      simp only [Bool.and_eq_true] at hv
      obtain ⟨⟨e1, e2⟩, e3⟩ := hv
      have e1 := Nat.eq_of_beq_eq_true e1
      have e2 := Nat.eq_of_beq_eq_true e2
      subst e2
      have ej : j = j0 := by
        unfold oCV at h
        split at h
        · split at h
          · cases h; rfl
          · cases h
        · cases h
      subst ej
      split at e3
      · rename_i hkd
        simp only [Bool.and_eq_true, decide_eq_true_eq] at e3
        rcases hkd with rfl | rfl
        · exact q_ci IH C S hcs hcap hgr hev he e1 hd e3.2 e3.1 h K
        · exact q_cin IH C S hcs hcap hgr hev he e1 hd e3.2 e3.1 h K
      · simp only [Bool.and_eq_true] at e3
        have := Nat.eq_of_beq_eq_true e3.1; subst this; exact (g5 rfl).elim
    · cases h
  all_goals cases hk
theorem sound (E : EX0) : ∀ n, GG E n := by
  intro n
  induction n with
  | zero => intro k pc ls st σ v σ2 h; cases h
  | succ n IH =>
    intro k pc ls st σ v σ2 h p l e R s m args below meth c QQ D A b bs H locs ws tys mls mst cells slots C S hcs hcap F
    have hstep : ∀ r, fetch k pc = some r → step (exX E) k pc ls st σ = stepI (exX E) k pc r ls st σ := fun r hr => by unfold step; rw [hr]
    cases hf : fetch k pc with
    | none => unfold evF step at h; rw [hf] at h; cases h
    | some r =>
      have hv0 := vd_fetch hf
      unfold evF at h
      rw [hstep r hf] at h
      split at h
      · cases h
      · rename_i pc' ls' st' σ1 h1
        have hg := evF_grow _ _ _ _ _ _ _ _ _ h
        refine q_all C S hcs ⟨by omega, by omega⟩ hv0 h1 (fun H1 locs1 ws1 tys1 mls1 mst1 cells1 slots1 hx S1 hc1 hs1 => ?_)
        exact IH _ _ _ _ _ _ _ h C S1 ⟨hc1, hs1⟩ hcap (fun H2 locs2 ws2 tys2 mls2 mst2 cells2 slots2 pc2 ls2 st2 hx2 S2 hc2 hs2 hrt => F H2 locs2 ws2 tys2 mls2 mst2 cells2 slots2 pc2 ls2 st2 (hx.tr hx2) S2 hc2 hs2 hrt)
      · rename_i h1
        cases h
        exact F H locs ws tys mls mst cells slots pc ls st XT.rf S hcs.1 hcs.2 (q_ret S hv0 h1)
      · rename_i j as pc2 rr h1
        split at h
        · cases h
        · rename_i v1 σ1 h2
          have hg1 := evF_grow _ _ _ _ _ _ _ _ _ h2
          have hg2 := evF_grow _ _ _ _ _ _ _ _ _ h
          refine q_inv IH C S hcs ⟨by omega, by omega⟩ hg1 h2 hv0 h1 (fun H1 locs1 ws1 tys1 mls1 mst1 cells1 slots1 hx S1 hc1 hs1 => ?_)
          exact IH _ _ _ _ _ _ _ h C S1 ⟨hc1, hs1⟩ hcap (fun H2 locs2 ws2 tys2 mls2 mst2 cells2 slots2 pc2 ls2 st2 hx2 S2 hc2 hs2 hrt => F H2 locs2 ws2 tys2 mls2 mst2 cells2 slots2 pc2 ls2 st2 (hx.tr hx2) S2 hc2 hs2 hrt)
