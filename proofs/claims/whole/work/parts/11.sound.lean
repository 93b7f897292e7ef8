/-! calls and returns, and the whole: what the interpreter does, the machine does -/
theorem slv_len : ∀ as : List Value, (slv as).length = cS as
  | [] => rfl
  | v :: r => by
    have h := slv_len r
    cases v <;> (simp only [slv, cS, List.length_cons, h]; omega)
theorem popA_spec {n : Nat} {st as r : List Value} (h : popA n st = some (as, r)) : as.length = n ∧ st = as.reverse ++ r := by
  unfold popA at h
  split at h <;> first | (cases h; exact ⟨rfl, rfl⟩) | cases h
def RT (k : Nat) (v : Option Value) (pc1 : Nat) (mst1 : List Value) : Prop :=
  (mR k = some .int ∧ ∃ x : Int32, v = some (.int x) ∧ mst1 = [.int x] ∧ decode (mB k) pc1 = .ok (.ireturn, 1)) ∨
  (mR k = some .boolean ∧ ∃ x : Int32, (x = 0 ∨ x = 1) ∧ v = some (.int x) ∧ mst1 = [.int x] ∧ decode (mB k) pc1 = .ok (.ireturn, 1)) ∨
  (mR k = some .long ∧ ∃ x : Int64, v = some (.long x) ∧ mst1 = [.long x] ∧ decode (mB k) pc1 = .ok (.lreturn, 1)) ∨
  (mR k = none ∧ v = none ∧ mst1 = [] ∧ decode (mB k) pc1 = .ok (.return_, 1))
def OKv (v : Option Value) : Prop := v = none ∨ (∃ x : Int32, v = some (.int x)) ∨ ∃ x : Int64, v = some (.long x)
theorem RT.ok {k : Nat} {v : Option Value} {pc1 : Nat} {mst1 : List Value} (h : RT k v pc1 mst1) : OKv v := by
  rcases h with ⟨-, x, h, -⟩ | ⟨-, x, -, h, -⟩ | ⟨-, x, h, -⟩ | ⟨-, h, -⟩
  · exact Or.inr (Or.inl ⟨x, h⟩)
  · exact Or.inr (Or.inl ⟨x, h⟩)
  · exact Or.inr (Or.inr ⟨x, h⟩)
  · exact Or.inl h
theorem psh_SR {E : EX0} {ws : va_W} {v : Option Value} (h : OKv v) {r mr : List Value} (hr : SR E ws r mr) : SR E ws (psh v r) (v.toList ++ mr) := by
  rcases h with rfl | ⟨x, rfl⟩ | ⟨x, rfl⟩
  · exact hr
  · exact ⟨rfl, hr⟩
  · exact ⟨rfl, hr⟩
def FINp (E : EX0) (D : va_G) (A : Nat → Prop) (b bs k : Nat) (p : Program) (l : Launch) (e : Env) (R : Room) (s : State) (m : MethodId) (args : Array Value) (below : List Frame) (meth : Method) (c : Code) (QQ : State → Prop) (ws : va_W) (v : Option Value) (σ2 : SH) : Prop :=
  ∀ (H1 : Heap) (locs1 : List Loc) (ws1 : va_W) (tys1 : List (ClassId × FieldType)) (mls1 : Array Slot) (mst1 : List Value) (cells1 slots1 pc1 : Nat) (ls1 : LS0) (st1 : List Value), XT ws ws1 → SS E D A s σ2 ls1 st1 H1 locs1 ws1 tys1 mls1 mst1 (mL k) → cells1 + b = σ2.1.length → slots1 + bs = slz σ2.1 → RT k v pc1 mst1 → W p l e R s m args below meth c H1 locs1 cells1 slots1 QQ (F0 m pc1 mls1 mst1)
def GG (E : EX0) (n : Nat) : Prop := ∀ (k pc : Nat) (ls : LS0) (st : List Value) (σ : SH) (v : Option Value) (σ2 : SH), evF (exX E) n k pc ls st σ = some (v, σ2) →
  ∀ {p : Program} {l : Launch} {e : Env} {R : Room} {s : State} {m : MethodId} {args : Array Value} {below : List Frame} {meth : Method} {c : Code} {QQ : State → Prop} {D : va_G} {A : Nat → Prop} {b bs : Nat} {H : Heap} {locs : List Loc} {ws : va_W} {tys : List (ClassId × FieldType)} {mls : Array Slot} {mst : List Value} {cells slots : Nat},
    FC k p R s m args meth c A E → SS E D A s σ ls st H locs ws tys mls mst (mL k) → (cells + b = σ.1.length ∧ slots + bs = slz σ.1) → (σ2.1.length ≤ b + R.cells ∧ slz σ2.1 ≤ bs + R.slots) → FINp E D A b bs k p l e R s m args below meth c QQ ws v σ2 → W p l e R s m args below meth c H locs cells slots QQ (F0 m pc mls mst)
def PP0 (E : EX0) (D : va_G) (ws : va_W) (tys : List (ClassId × FieldType)) (sz : Nat) (U : State) : Prop := U.heap.size = sz ∧ va_P D vwCl ws U.heap ∧ va_K D vwCl tys U ∧ va_D (fun _ => True) ws ∧ RO E (va_A ws sz) U U.heap ∧ ∀ w ∈ NEST, va_Nw w U
def BB0 (E : EX0) (D : va_G) (ws : va_W) (sz : Nat) (v : Option Value) (σ2 : SH) (u : va_W × List (ClassId × FieldType)) (t : State) : Prop := OKv v ∧ XT ws u.1 ∧ va_P D vwCl u.1 t.heap ∧ va_K D vwCl u.2 t ∧ va_D (va_A ws sz) u.1 ∧ REL E u.2 σ2 u.1
def QQ0 (E : EX0) (D : va_G) (ws : va_W) (sz : Nat) (v : Option Value) (σ2 : SH) : Array Value → State → Outcome → State → Prop := fun _ st oc t => (∃ u : va_W × List (ClassId × FieldType), oc = .returned v ∧ BB0 E D ws sz v σ2 u t) ∧ va_F (va_A ws sz) st t
theorem nest_same {w : Jvm.Cond} (h : isNest w = true) : w.onTables = true := by
  cases w <;> first | rfl | cases h
theorem nest_warm {w : Jvm.Cond} (h : isNest w = true) {s U : State} (hW : s.WarmedH U.vm) (hz : va_Nw w s) : va_Nw w U := by
  cases w <;> first | exact va_Nw.warmM hW hz | cases h
theorem blind0 {E : EX0} {D : va_G} {ws : va_W} {tys : List (ClassId × FieldType)} {sz : Nat} {av : List Value} : FrameBlind (va_Pc av (PP0 E D ws tys sz)) := by
  intro a U g mk q
  obtain ⟨q1, q2, q3, q4, q5, q6, q7⟩ := q
  exact ⟨q1, q2, q3, va_K.moved (u := U) (U := U.calling g mk a) (Vm.Alike.refl U.vm) q4, q5, RO.moved (u := U) (U := U.calling g mk a) (Vm.Alike.refl U.vm) q6, fun w hw => va_Nw.same (u := U) (U := U.calling g mk a) (nest_same (nest_sub hw).2) rfl (q7 w hw)⟩
theorem goodC {j : Nat} (hj : j < 201) : GoodIn ALLG (wCd j :: ALLG) := by
  intro w hw
  rcases List.mem_cons.mp hw with rfl | h
  · exact allg_in _ (wcd_ok j hj)
  · exact allg_in _ h
theorem met_of {E : EX0} {n : Nat} (IH : GG E n) {j : Nat} (hj : j < 201) {as mas : List Value} {σ σ2 : SH} {v : Option Value} (hev : evF (exX E) n j 0 (entL (mL j) as) [] σ = some (v, σ2)) (l : Launch) {D : va_G} {ws : va_W} {tys : List (ClassId × FieldType)} {sz mc ms : Nat}
    (hmc : σ2.1.length = σ.1.length + mc) (hms : slz σ2.1 = slz σ.1 + ms) (hR : REL E tys σ ws) (hS : SR E ws as mas) (hcs : cS as ≤ mL j) :
    Met l (mN j) (wCd j :: ALLG) ({ frames := mK j, cells := mc, slots := ms, locals := 43 * mK j }) (va_Pc mas (PP0 E D ws tys sz)) (QQ0 E D ws sz v σ2) mc ms (va_A ws sz) := by
  refine Met.ofW (cc := mB j) (maxL := mL j) (ret := mR j) (mn_at hj).2.2.2.1 rfl ?_
  intro p e s m args below meth c s₁ B hml hv
  obtain ⟨rfl, hsz, hP, hK, hD0, hRO, hNw⟩ := hv
  have hts := atoms_spec (ws := wCd j :: ALLG) B.pre
  have hown : s.vm.findClass (mN j).cls = some m.cls := findClass_of_methodNamed B.named
  rw [(mn_at hj).1] at hown
  have hD := hD0.self (sz := sz)
  rw [lg_entry_eq]
  refine IH j 0 _ [] σ v σ2 hev (b := σ.1.length) (bs := slz σ.1) (A := va_A ws sz) ⟨B.exec, B.bytes, hml, hown, fun w h => hts w (List.mem_cons_of_mem _ h), hNw, fun h => (name_of_methodNamed B.named B.method).1.trans h, fun q h => Or.inr (by rw [← hsz]; exact h), hRO, Nat.le_refl _, Nat.le_refl _⟩
    ⟨hK, hP, hD, va_S.rf, hR, LR.entry hS (by rw [slv_len]; exact hcs), trivial⟩ ⟨by omega, by omega⟩ ⟨by rw [hmc]; exact Nat.le_refl _, by rw [hms]; exact Nat.le_refl _⟩ ?_
  intro H1 locs1 ws1 tys1 mls1 mst1 cells1 slots1 pc1 ls1 st1 hx hS1 hc1 hs1 hrt
  have e1 : cells1 = mc := by omega
  have e2 : slots1 = ms := by omega
  subst e1; subst e2
  obtain ⟨hK1, hP1, hD1, hF1, hR1, -, -⟩ := hS1
  have hq : ∀ t : State, t.heap = H1 → s.WarmedH t.vm → QQ0 E D ws sz v σ2 mas.toArray s (.returned v) t := fun t ht hW => ⟨⟨(ws1, tys1), rfl, hrt.ok, hx, by rw [ht]; exact hP1, va_K.moved hW.alike hK1, hD1, hR1⟩, hF1.F ht⟩
  rcases hrt with ⟨hr, x, rfl, rfl, hd⟩ | ⟨hr, x, hx01, rfl, rfl, hd⟩ | ⟨hr, x, rfl, rfl, hd⟩ | ⟨hr, rfl, rfl, hd⟩
  · exact W.iret B.exec B.bytes (B.returns.trans hr) hq hF1.2.2 hd B.notSynchronized
  · exact W.zret B.exec B.bytes (B.returns.trans hr) (by rcases hx01 with z | z <;> subst z <;> rfl) hq hF1.2.2 hd B.notSynchronized
  · exact W.lret B.exec B.bytes (B.returns.trans hr) hq hF1.2.2 hd B.notSynchronized
  · exact W.vret B.exec B.bytes (B.returns.trans hr) hq hF1.2.2 hd B.notSynchronized
section MyCall
variable {p : Program} {l : Launch} {e : Env} {R : Room} {s : State} {m : MethodId} {args : Array Value} {below : List Frame} {meth : Method} {c : Code} {H : Heap} {locs : List Loc} {cells slots mc ms : Nat} {Q : State → Prop}
theorem my_call {A0 A1 : Nat → Prop} {H0 : Heap} {v : Option Value} {U : Type} {B : U → State → Prop} {free : Addr → Prop} {pc : Nat} {mls : Array Slot} {st0 rest : List Value}
    (hr : va_Run p l e R s m args below meth c H locs cells slots mc ms (F0 m pc mls st0) rest (fun st oc t => (∃ u : U, oc = .returned v ∧ B u t) ∧ va_F A1 st t) free) (hS : va_S A0 H0 H locs) (hA : ∀ q, q < H.size → A1 q → A0 q) (hf : ∀ q, free q → A0 q)
    (kk : ∀ (u : U) (t : State) (H1 : Heap) (locs1 : List Loc), t.heap = H1 → s.vm.Alike t.vm → B u t → va_S A0 H0 H1 locs1 → W p l e R s m args below meth c H1 locs1 (cells + mc) (slots + ms) Q (F0 m (pc + 3) mls (v.toList ++ rest))) : W p l e R s m args below meth c H locs cells slots Q (F0 m pc mls st0) := by
  intro T hT X
  obtain ⟨v', st₀, t, T', L, h0, X', hL, e1, e2, ⟨⟨u, hv, hb⟩, hz, hk⟩, st⟩ := hr T hT X
  cases hv
  rw [h0] at hz hk
  obtain ⟨t2, a1, b1⟩ := kk u t T'.heap (locs ++ L) e1.symm (by rw [← e2]; exact X'.warmed.alike) hb
    ⟨Nat.le_trans hS.1 (by rw [e1]; exact hz), fun q h1 h2 => by rw [e1, hk q (Nat.lt_of_lt_of_le h1 hS.1) (fun z => h2 (hA q (Nat.lt_of_lt_of_le h1 hS.1) z))]; exact hS.2.1 q h1 h2, fun q hq => by
      rcases List.mem_append.mp hq with h | h
      · exact hS.2.2 q h
      · exact hf _ (hL q h)⟩ T' rfl X'
  exact ⟨t2, st t2 a1, b1⟩
end MyCall
theorem pp_at {E : EX0} {D : va_G} {A : Nat → Prop} {s : State} {H : Heap} {locs : List Loc} {ws : va_W} {tys : List (ClassId × FieldType)} (hK : va_K D vwCl tys s) (hP : va_P D vwCl ws H) (hD : va_D A ws) (hS : va_S A s.heap H locs) (hro : RO E A s s.heap) (hnw : ∀ w ∈ NEST, va_Nw w s) (hF : ∀ q, va_A ws H.size q → A q) :
    ∀ U : State, U.heap = H → s.WarmedH U.vm → PP0 E D ws tys H.size U := by
  intro U hU hW
  refine ⟨by rw [hU], by rw [hU]; exact hP, va_K.moved hW.alike hK, hD.weaken (fun _ _ _ _ => trivial), ?_, fun w hw => nest_warm (nest_sub hw).2 hW (hnw w hw)⟩
  rw [hU]
  exact ((hro.kept hS.2.1).narrow hF).moved hW.alike
theorem free_all {A : Nat → Prop} {s : State} {ws : va_W} {H : Heap} {locs : List Loc} (hD : va_D A ws) (hS : va_S A s.heap H locs) (hA : ∀ q, s.heap.size ≤ q → A q) : ∀ q, va_A ws H.size q → A q := by
  intro q h
  rcases h with ⟨k, e, h⟩ | h
  · exact hD.2 k (q, e) h
  · exact hA q (Nat.le_trans hS.1 h)
theorem clI_cn {i : Nat} (h : i < 11) : (clI i).1 = cn i := by
  match i, h with
  | 0, _ => rfl
  | 1, _ => rfl
  | 2, _ => rfl
  | 3, _ => rfl
  | 4, _ => rfl
  | 5, _ => rfl
  | 6, _ => rfl
  | 7, _ => rfl
  | 8, _ => rfl
  | 9, _ => rfl
  | 10, _ => rfl
