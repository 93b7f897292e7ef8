/-! THE CLAIM OUT OF ONE WALK OF THE LAW'S BODY. Your part is whole_start (and what it stands on); all else here is the same for every law, but numbers. -/
def R_law : String := "SmellInTheHouseLaw"
def lw_P (b : Addr) (xs : List Int32) (args : Array Value) (s : State) : Prop := args = #[.ref b] ∧ s.IntsAt b xs ∧ xs.length ≤ 320 ∧ (Jvm.Cond.and given_1 narrow_1).before args s = true
def lw_Q (_ : Array Value) (s : State) (o : Outcome) (t : State) : Prop := o = .returned (some (.int 1)) ∧ Framed s o t [] 97 1572
def lw_Z (below : List Frame) (a : Array Value) (s : State) : State → Prop := fun t => ∃ o, t.status = .running ∧ Ended t below o ∧ lw_Q a s o t
/-- the law's own end, with 1 on the stack, nothing written that was there before, its room as the claim has it -/
theorem lw_ret {p : Program} {l : Launch} {e : Env} {s : State} {m : MethodId} {below : List Frame} {meth : Method} {c : Code} {b : Nat} (hx : p.tables.exec = Jvm.exec) (hb : c.code = code) (hr : meth.sig.returnType = ret) (hlocks : meth.locks = false) {pc : Nat} {H : Heap} {ls : Array Slot} (hdg : decode code pc = .ok (.ireturn, 1)) : W p l e room_1 s m #[Value.ref b] below meth c H [] 97 1572 (lw_Z below #[Value.ref b] s) (F0 m pc ls [.int 1]) := by
  intro T hT X
  obtain ⟨fs, hret, hrun, hended, hW, hframe⟩ := X.leave (v := some (.int 1)) (hlocks := hlocks) (fun h => by rw [hr] at h; cases h)
  have hmeth' : T.vm.method? m = some meth := X.method'
  refine ⟨T.setFrames fs, ?_, .returned (some (.int 1)), hrun, hended, rfl, ⟨_, rfl⟩, hW, hframe⟩
  jvm_step X.here [X.here.top, hx, hb, hdg, hmeth', hr, ret, narrow_b1]
  (try refine ⟨rfl, ?_⟩); (try refine ⟨rfl, ?_⟩)
  first | (intro acts; rw [hret _ acts rfl rfl rfl]) | rw [hret _ _ rfl rfl rfl]
  exact Steps.refl _
/-- what holds at the law's entry: the machine, the code, the tables' words (any of lw_tbl by 'hts w (by decide +kernel)'), the script of L ints xs at the cell b, what the Statement gives of the start (any of its parts by flat_of_before) -/
def lw_At (p : Program) (s : State) (m : MethodId) (meth : Method) (c : Code) (b L : Nat) (xs : Nat → Int32) : Prop :=
  p.tables.exec = Jvm.exec ∧ c.code = code ∧ meth.sig.returnType = ret ∧ c.maxLocals = 4 ∧ s.vm.findClass R_law = some m.cls ∧ (∀ w ∈ lw_tbl, w.before #[Value.ref b] s = true) ∧ va_X b L xs s s.heap ∧ b < s.heap.size ∧ meth.locks = false ∧ (Jvm.Cond.and given_1 narrow_1).before #[Value.ref b] s = true
def least0 : Nat → Int32 := fun j => if j = 0 then 0 else if j = 1 then 1 else 0
def most0 : Nat → Int32 := fun j => if j = 0 then 3 else if j = 1 then 999 else 50
def sh0 : SH := ([], fun _ _ => none, fun _ _ => 0, fun _ _ => 0)
def LX (L : Nat) (xs : Nat → Int32) : SX := [(3, least0), (3, most0), (L, xs)]
theorem lt3 {P : Nat → Prop} (h0 : P 0) (h1 : P 1) (h2 : P 2) : ∀ j, j < 3 → P j := by
  intro j hj
  match j, hj with
  | 0, _ => exact h0
  | 1, _ => exact h1
  | 2, _ => exact h2
set_option maxHeartbeats 4000000 in
set_option maxRecDepth 100000 in
theorem start_of {p : Program} {e : Env} {s : State} {m : MethodId} {below : List Frame} {meth : Method} {c : Code} (l : Launch) {b L : Nat} {xs : Nat → Int32} (hL : L ≤ 320) (C0 : lw_At p s m meth c b L xs) (hp : ∃ σ2, exD (LX L xs) 201 0 (entL 4 [.ref 4098]) [] sh0 = some (some (.int 1), σ2) ∧ σ2.1.length ≤ 97 ∧ slz σ2.1 ≤ 1572) : W p l e room_1 s m #[Value.ref b] below meth c s.heap [] 0 0 (lw_Z below #[Value.ref b] s) (entryFrame m ([Value.ref b] : List Value).toArray 4) := by
  obtain ⟨hx, hb, hr, hml, hown, hts, hX, hbl, hlocks, hgv⟩ := id C0
  obtain ⟨σ2, hev, hlen, hslz⟩ := hp
  obtain ⟨n, hn⟩ := exD_iff.mp hev
  have hA : ∀ q : Nat, s.heap.size ≤ q → (fun q : Nat => s.heap.size ≤ q) q := fun _ h => h
  have hnA : ∀ a : Nat, a < s.heap.size → ¬ (fun q : Nat => s.heap.size ≤ q) a := fun a h => Nat.not_le.mpr h
  have hfl := flat_of_before _ hgv
  have hZ : ∀ (nm : String) (f : Nat → Int32), (Jvm.Cond.laysStatic "SmellInTheHouse" nm "[I") ∈ lw_tbl → (Cond.arrayOf (.static "SmellInTheHouse" nm "[I") .int).before #[Value.ref b] s = true → (Cond.eq (.length (.static "SmellInTheHouse" nm "[I")) (.int 3)).before #[Value.ref b] s = true → (∀ j, j < 3 → (Cond.eq (.elem (.static "SmellInTheHouse" nm "[I") (.int (Int32.ofNat j))) (.int (f j))).before #[Value.ref b] s = true) →
      ∃ t : Nat, va_T .int t 3 (fun i => .int (f i)) (fun q : Nat => s.heap.size ≤ q) s s.heap ∧ va_Z "SmellInTheHouse" nm "[I" (.ref t) (fun q : Nat => s.heap.size ≤ q) s s.heap := by
    intro nm f h1 h2 h3 h4
    obtain ⟨t, g1, g2⟩ := va_Tof (N := 3) (f := fun i => .int (f i)) (A := fun q : Nat => s.heap.size ≤ q) (by decide) h2 (va_eqt h3) (fun j hj => va_eqt (h4 j hj)) hnA
    exact ⟨t, g2, va_Zref (hts _ h1) (hts _ (allg_sub (wini_ok 9 (by decide)))) g1 hnA⟩
  obtain ⟨t0, hT0, hZ0⟩ := hZ "SETTING_LEAST" least0 (List.mem_of_getElem? (i := 534) (by decide +kernel)) (hfl _ (by decide +kernel)) (hfl _ (by decide +kernel)) (lt3 (hfl _ (by decide +kernel)) (hfl _ (by decide +kernel)) (hfl _ (by decide +kernel)))
  obtain ⟨t1, hT1, hZ1⟩ := hZ "SETTING_MOST" most0 (List.mem_of_getElem? (i := 532) (by decide +kernel)) (hfl _ (by decide +kernel)) (hfl _ (by decide +kernel)) (lt3 (hfl _ (by decide +kernel)) (hfl _ (by decide +kernel)) (hfl _ (by decide +kernel)))
  have hT2 : va_T .int b L (fun i => .int (xs i)) (fun q : Nat => s.heap.size ≤ q) s s.heap := by
    obtain ⟨scr, h1, h2, h3, h4, h5⟩ := hX
    exact ⟨scr, h1, h2, h3, by omega, by rw [h4], h5, hnA _ hbl⟩
  have hRO : RO [(t0, 3, least0), (t1, 3, most0), (b, L, xs)] (fun q : Nat => s.heap.size ≤ q) s s.heap := by
    refine ⟨fun j e he => ?_, fun j hj => ?_⟩
    · match j, he with
      | 0, he => cases he; exact hT0
      | 1, he => cases he; exact hT1
      | 2, he => cases he; exact hT2
      | j + 3, he => simp at he
    · match j, hj with
      | 0, _ => exact ⟨_, rfl, hZ0⟩
      | 1, _ => exact ⟨_, rfl, hZ1⟩
  obtain ⟨c0, i0, hK0⟩ := u_known (C := RX0) (T := TX0) (N := 9) (n := 9) hts lay_in_0 (hts (.instantiable RX0 9) (List.mem_of_getElem? (i := 225) (by decide +kernel)))
  obtain ⟨c1, i1, hK1⟩ := u_known (C := RX1) (T := TX1) (N := 1) (n := 1) hts lay_in_1 (hts (.instantiable RX1 1) (List.mem_of_getElem? (i := 286) (by decide +kernel)))
  obtain ⟨c2, i2, hK2⟩ := u_known (C := RX2) (T := TX2) (N := 10) (n := 10) hts lay_in_2 (hts (.instantiable RX2 10) (List.mem_of_getElem? (i := 73) (by decide +kernel)))
  obtain ⟨c3, i3, hK3⟩ := u_known (C := RX3) (T := TX3) (N := 2) (n := 2) hts lay_in_3 (hts (.instantiable RX3 2) (List.mem_of_getElem? (i := 193) (by decide +kernel)))
  obtain ⟨c4, i4, hK4⟩ := u_known (C := RX4) (T := TX4) (N := 5) (n := 5) hts lay_in_4 (hts (.instantiable RX4 5) (List.mem_of_getElem? (i := 109) (by decide +kernel)))
  obtain ⟨c5, i5, hK5⟩ := u_known (C := RX5) (T := TX5) (N := 2) (n := 2) hts lay_in_5 (hts (.instantiable RX5 2) (List.mem_of_getElem? (i := 207) (by decide +kernel)))
  obtain ⟨c6, i6, hK6⟩ := u_known (C := RX6) (T := TX6) (N := 8) (n := 8) hts lay_in_6 (hts (.instantiable RX6 8) (List.mem_of_getElem? (i := 278) (by decide +kernel)))
  obtain ⟨c7, i7, hK7⟩ := u_known (C := RX7) (T := TX7) (N := 5) (n := 5) hts lay_in_7 (hts (.instantiable RX7 5) (List.mem_of_getElem? (i := 79) (by decide +kernel)))
  obtain ⟨c8, i8, hK8⟩ := u_known (C := RX8) (T := TX8) (N := 2) (n := 2) hts lay_in_8 (hts (.instantiable RX8 2) (List.mem_of_getElem? (i := 263) (by decide +kernel)))
  obtain ⟨c9, i9, hK9⟩ := u_known (C := RX9) (T := TX9) (N := 10) (n := 10) hts lay_in_9 (hts (.instantiable RX9 10) (List.mem_of_getElem? (i := 65) (by decide +kernel)))
  obtain ⟨c10, i10, hK10⟩ := u_known (C := RX10) (T := TX10) (N := 41) (n := 41) hts lay_in_10 (hts (.instantiable RX10 41) (List.mem_of_getElem? (i := 846) (by decide +kernel)))
  obtain ⟨dC, dI, hKc⟩ : ∃ (dC : Nat → ClassId) (dI : Nat → Nat → Nat), ∀ (k : Nat) (q : vw_C), vwCl[k]? = some q → u_Kn s q.1 q.2.1 q.2.2 (dC k) (dI k) := by
    refine ⟨fun k => [c0, c1, c2, c3, c4, c5, c6, c7, c8, c9, c10].getD k c0, fun k => [i0, i1, i2, i3, i4, i5, i6, i7, i8, i9, i10].getD k i0, ?_⟩
    intro k q hq
    match k, hq with
    | 0, hq => cases hq; exact hK0
    | 1, hq => cases hq; exact hK1
    | 2, hq => cases hq; exact hK2
    | 3, hq => cases hq; exact hK3
    | 4, hq => cases hq; exact hK4
    | 5, hq => cases hq; exact hK5
    | 6, hq => cases hq; exact hK6
    | 7, hq => cases hq; exact hK7
    | 8, hq => cases hq; exact hK8
    | 9, hq => cases hq; exact hK9
    | 10, hq => cases hq; exact hK10
    | k + 11, hq => simp [vwCl] at hq
  have hl := lv_entry ([.ref b]) (n := 4) (Nat.le_of_ble_eq_true rfl)
  rw [lg_entry_eq]
  refine sound [(t0, 3, least0), (t1, 3, most0), (b, L, xs)] n 201 0 _ [] sh0 _ σ2 hn (D := (dC, dI)) (A := fun q : Nat => s.heap.size ≤ q) (b := 0) (bs := 0) (ws := []) (tys := []) ⟨hx, hb, hml, hown, fun w h => hts w (allg_sub h), fun w h => va_Nw.of (nest_same (nest_sub h).2) (hts w (nest_sub h).1), fun h => absurd h (by decide +kernel), hA, hRO, by decide +kernel, by decide +kernel⟩
    ⟨⟨hKc, fun k q h => by simp at h⟩, fun k q h => by simp at h, ⟨fun i j p q h => by simp at h, fun k q h => by simp at h⟩, va_S.rf, ⟨rfl, fun k t h => by simp [sh0] at h⟩, LR.entry (as := [.ref 4098]) (mas := [.ref b]) (show SR [(t0, 3, least0), (t1, 3, most0), (b, L, xs)] [] [Value.ref 4098] [Value.ref b] from ⟨⟨b, rfl, by rw [if_neg (by decide)]; exact ⟨_, rfl, rfl⟩⟩, trivial⟩) (by decide), trivial⟩ ⟨rfl, rfl⟩ ⟨by show _ ≤ 0 + 97; omega, by show _ ≤ 0 + 1572; omega⟩ ?_
  intro H1 locs1 ws1 tys1 mls1 mst1 cells1 slots1 pc1 ls1 st1 hx1 hS1 hc1 hs1 hrt
  rcases hrt with ⟨hrr, x, hv, -⟩ | ⟨hrr, x, -, hv, rfl, hd⟩ | ⟨hrr, x, hv, -⟩ | ⟨hrr, hv, -⟩
  · exact absurd hrr (by decide +kernel)
  · cases hv
    refine va_forget hS1.2.2.2.1.2.2 ?_
    refine W.widen (k := 97) (n := 1572) (by omega) (by omega) ?_
    exact lw_ret hx hb hr hlocks hd
  · exact absurd hrr (by decide +kernel)
  · exact absurd hrr (by decide +kernel)
