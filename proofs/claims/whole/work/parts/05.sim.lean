/-! the small interpreter: what the used bytecode does, over cells that are numbered as they are made; a reference is the cell's number, 4096 + j is the j-th array that is only read -/
abbrev LS0 : Type := List (Option Value)
abbrev SH : Type := List (Nat × Nat) × (Nat → Nat → Option Nat) × (Nat → Nat → Int32) × (Nat → Nat → Int64)
abbrev SX : Type := List (Nat × (Nat → Int32))
abbrev NX : Type := (Nat × LS0 × List Value × SH) ⊕ (Option Value) ⊕ (Nat × List Value × Nat × List Value)
abbrev Res : Type := Option (Option Value × SH)
def hk (σ : SH) (k : Nat) : Option (Nat × Nat) := if k < 4096 then σ.1[k]? else none
def u2 {α : Type} (f : Nat → Nat → α) (k j : Nat) (v : α) : Nat → Nat → α := fun a b => if a = k then (if b = j then v else f a b) else f a b
def z2 {α : Type} (f : Nat → Nat → α) (k : Nat) (g : Nat → α) : Nat → Nat → α := fun a b => if a = k then g b else f a b
def imx (x y : Int32) : Int32 := if x < y then y else x
def imn (x y : Int32) : Int32 := if y < x then y else x
def nx (pc : Nat) (ls : LS0) (st : List Value) (σ : SH) : Option NX := some (.inl (pc, ls, st, σ))
def cS : List Value → Nat
  | [] => 0
  | .long _ :: r => 2 + cS r
  | .double _ :: r => 2 + cS r
  | _ :: r => 1 + cS r
def popA : Nat → List Value → Option (List Value × List Value)
  | 0, r => some ([], r)
  | 1, a :: r => some ([a], r)
  | 2, b :: a :: r => some ([a, b], r)
  | 3, c :: b :: a :: r => some ([a, b, c], r)
  | 4, d :: c :: b :: a :: r => some ([a, b, c, d], r)
  | 5, e :: d :: c :: b :: a :: r => some ([a, b, c, d, e], r)
  | _, _ => none
/-- the locals at a method's entry -/
def slv : List Value → LS0
  | [] => []
  | .long x :: r => some (.long x) :: none :: slv r
  | .double x :: r => some (.double x) :: none :: slv r
  | v :: r => some v :: slv r
def entL (n : Nat) (as : List Value) : LS0 := slv as ++ List.replicate (n - (slv as).length) none
/-- a store of one slot, of two -/
def stK (i : Nat) (ls : LS0) : LS0 := match i with
  | 0 => ls
  | j + 1 => match ls[j]? with
    | some (some (.long _)) => ls.set j none
    | some (some (.double _)) => ls.set j none
    | _ => ls
def stS (i : Nat) (v : Value) (ls : LS0) : LS0 := (stK i ls).set i (some v)
def stD (i : Nat) (v : Value) (ls : LS0) : LS0 := ((stK i ls).set i (some v)).set (i + 1) none
def oILd (i pc : Nat) (ls : LS0) (st : List Value) (σ : SH) : Option NX := match ls[i]? with
  | some (some (.int x)) => nx pc ls (.int x :: st) σ
  | _ => none
def oLLd (i pc : Nat) (ls : LS0) (st : List Value) (σ : SH) : Option NX := match ls[i]? with
  | some (some (.long x)) => nx pc ls (.long x :: st) σ
  | _ => none
def oALd (i pc : Nat) (ls : LS0) (st : List Value) (σ : SH) : Option NX := match ls[i]? with
  | some (some (.ref x)) => nx pc ls (.ref x :: st) σ
  | _ => none
def oISt (i pc : Nat) (ls : LS0) (st : List Value) (σ : SH) : Option NX := match st with
  | .int x :: r => if i < ls.length then nx pc (stS i (.int x) ls) r σ else none
  | _ => none
def oLSt (i pc : Nat) (ls : LS0) (st : List Value) (σ : SH) : Option NX := match st with
  | .long x :: r => if i + 1 < ls.length then nx pc (stD i (.long x) ls) r σ else none
  | _ => none
def oASt (i pc : Nat) (ls : LS0) (st : List Value) (σ : SH) : Option NX := match st with
  | .ref x :: r => if i < ls.length then nx pc (stS i (.ref x) ls) r σ else none
  | _ => none
def oInc (i : Nat) (v : Int32) (pc : Nat) (ls : LS0) (st : List Value) (σ : SH) : Option NX := match ls[i]? with
  | some (some (.int x)) => nx pc (stS i (.int (x + v)) ls) st σ
  | _ => none
def oI2 (f : Int32 → Int32 → Int32) (pc : Nat) (ls : LS0) (st : List Value) (σ : SH) : Option NX := match st with
  | .int y :: .int x :: r => nx pc ls (.int (f x y) :: r) σ
  | _ => none
def oL2 (f : Int64 → Int64 → Int64) (pc : Nat) (ls : LS0) (st : List Value) (σ : SH) : Option NX := match st with
  | .long y :: .long x :: r => nx pc ls (.long (f x y) :: r) σ
  | _ => none
def oIDiv (f : Int32 → Int32 → Int32) (pc : Nat) (ls : LS0) (st : List Value) (σ : SH) : Option NX := match st with
  | .int y :: .int x :: r => if y = 0 then none else nx pc ls (.int (f x y) :: r) σ
  | _ => none
def oLDiv (f : Int64 → Int64 → Int64) (pc : Nat) (ls : LS0) (st : List Value) (σ : SH) : Option NX := match st with
  | .long y :: .long x :: r => if y = 0 then none else nx pc ls (.long (f x y) :: r) σ
  | _ => none
def oNeg (pc : Nat) (ls : LS0) (st : List Value) (σ : SH) : Option NX := match st with
  | .int x :: r => nx pc ls (.int (-x) :: r) σ
  | _ => none
def oI2L (pc : Nat) (ls : LS0) (st : List Value) (σ : SH) : Option NX := match st with
  | .int x :: r => nx pc ls (.long x.toInt64 :: r) σ
  | _ => none
def oLcmp (pc : Nat) (ls : LS0) (st : List Value) (σ : SH) : Option NX := match st with
  | .long y :: .long x :: r => nx pc ls (.int (lg_cmp x y) :: r) σ
  | _ => none
def oDup (pc : Nat) (ls : LS0) (st : List Value) (σ : SH) : Option NX := match st with
  | .int x :: r => nx pc ls (.int x :: .int x :: r) σ
  | .ref x :: r => nx pc ls (.ref x :: .ref x :: r) σ
  | _ => none
def oDup2 (pc : Nat) (ls : LS0) (st : List Value) (σ : SH) : Option NX := match st with
  | .int x :: .ref y :: r => nx pc ls (.int x :: .ref y :: .int x :: .ref y :: r) σ
  | _ => none
def oPop (pc : Nat) (ls : LS0) (st : List Value) (σ : SH) : Option NX := match st with
  | .int _ :: r => nx pc ls r σ
  | _ => none
def oPop2 (pc : Nat) (ls : LS0) (st : List Value) (σ : SH) : Option NX := match st with
  | .long _ :: r => nx pc ls r σ
  | _ => none
def oIf (c : ClassFile.Cond) (t pc : Nat) (ls : LS0) (st : List Value) (σ : SH) : Option NX := match c, st with
  | .eq, .int x :: r => if x = 0 then nx t ls r σ else nx pc ls r σ
  | .ne, .int x :: r => if x = 0 then nx pc ls r σ else nx t ls r σ
  | .lt, .int x :: r => if x < 0 then nx t ls r σ else nx pc ls r σ
  | .ge, .int x :: r => if 0 ≤ x then nx t ls r σ else nx pc ls r σ
  | .gt, .int x :: r => if 0 < x then nx t ls r σ else nx pc ls r σ
  | .le, .int x :: r => if x ≤ 0 then nx t ls r σ else nx pc ls r σ
  | _, _ => none
def oIfI (c : ClassFile.Cond) (t pc : Nat) (ls : LS0) (st : List Value) (σ : SH) : Option NX := match c, st with
  | .eq, .int y :: .int x :: r => if x = y then nx t ls r σ else nx pc ls r σ
  | .ne, .int y :: .int x :: r => if x = y then nx pc ls r σ else nx t ls r σ
  | .lt, .int y :: .int x :: r => if x < y then nx t ls r σ else nx pc ls r σ
  | .ge, .int y :: .int x :: r => if y ≤ x then nx t ls r σ else nx pc ls r σ
  | .gt, .int y :: .int x :: r => if y < x then nx t ls r σ else nx pc ls r σ
  | .le, .int y :: .int x :: r => if x ≤ y then nx t ls r σ else nx pc ls r σ
  | _, _ => none
def swX (x : Int32) (d : Nat) (ls : LS0) (st : List Value) (σ : SH) : List (Int32 × Nat) → Option NX
  | [] => nx d ls st σ
  | (k, t) :: r => if x = k then nx t ls st σ else swX x d ls st σ r
def oSw (d : Nat) (tb : List (Int32 × Nat)) (ls : LS0) (st : List Value) (σ : SH) : Option NX := match st with
  | .int x :: r => swX x d ls r σ tb
  | _ => none
def oGf (ci j : Nat) (pc : Nat) (ls : LS0) (st : List Value) (σ : SH) : Option NX := match st with
  | .ref b :: r => if hk σ b = some (0, ci) then (if ftag ci j = 2 then (match σ.2.1 b j with
    | some q => nx pc ls (.ref q :: r) σ
    | none => none) else nx pc ls (.int (σ.2.2.1 b j) :: r) σ) else none
  | _ => none
def oPf (ci j : Nat) (pc : Nat) (ls : LS0) (st : List Value) (σ : SH) : Option NX := match st with
  | .int v :: .ref b :: r => if hk σ b = some (0, ci) then (if ftag ci j = 0 then nx pc ls r (σ.1, σ.2.1, u2 σ.2.2.1 b j v, σ.2.2.2) else if ftag ci j = 1 ∧ (v = 0 ∨ v = 1) then nx pc ls r (σ.1, σ.2.1, u2 σ.2.2.1 b j v, σ.2.2.2) else none) else none
  | .ref q :: .ref b :: r => if hk σ b = some (0, ci) then (if ftag ci j = 2 then nx pc ls r (σ.1, u2 σ.2.1 b j (some q), σ.2.2.1, σ.2.2.2) else none) else none
  | _ => none
def oNew (ci : Nat) (pc : Nat) (ls : LS0) (st : List Value) (σ : SH) : Option NX :=
  if σ.1.length < 4096 then nx pc ls (.ref σ.1.length :: st) (σ.1 ++ [(0, ci)], z2 σ.2.1 σ.1.length (fun _ => none), z2 σ.2.2.1 σ.1.length (fun _ => 0), σ.2.2.2) else none
def oNewI (pc : Nat) (ls : LS0) (st : List Value) (σ : SH) : Option NX := match st with
  | .int n :: r => if σ.1.length < 4096 ∧ 0 ≤ n ∧ n.toNatClampNeg ≤ 1000 then nx pc ls (.ref σ.1.length :: r) (σ.1 ++ [(1, n.toNatClampNeg)], σ.2.1, z2 σ.2.2.1 σ.1.length (fun _ => 0), σ.2.2.2) else none
  | _ => none
def oNewL (pc : Nat) (ls : LS0) (st : List Value) (σ : SH) : Option NX := match st with
  | .int n :: r => if σ.1.length < 4096 ∧ 0 ≤ n ∧ n.toNatClampNeg ≤ 1000 then nx pc ls (.ref σ.1.length :: r) (σ.1 ++ [(2, n.toNatClampNeg)], σ.2.1, σ.2.2.1, z2 σ.2.2.2 σ.1.length (fun _ => 0)) else none
  | _ => none
def oLen (X : SX) (pc : Nat) (ls : LS0) (st : List Value) (σ : SH) : Option NX := match st with
  | .ref b :: r => if b < 4096 then (match σ.1[b]? with
    | some (1, n) => nx pc ls (.int (Int32.ofNat n) :: r) σ
    | some (2, n) => nx pc ls (.int (Int32.ofNat n) :: r) σ
    | _ => none) else (match X[b - 4096]? with
    | some e => nx pc ls (.int (Int32.ofNat e.1) :: r) σ
    | none => none)
  | _ => none
def oIald (X : SX) (pc : Nat) (ls : LS0) (st : List Value) (σ : SH) : Option NX := match st with
  | .int i :: .ref b :: r => if b < 4096 then (match σ.1[b]? with
    | some (1, n) => if 0 ≤ i ∧ i.toNatClampNeg < n then nx pc ls (.int (σ.2.2.1 b i.toNatClampNeg) :: r) σ else none
    | _ => none) else (match X[b - 4096]? with
    | some e => if 0 ≤ i ∧ i.toNatClampNeg < e.1 then nx pc ls (.int (e.2 i.toNatClampNeg) :: r) σ else none
    | none => none)
  | _ => none
def oLald (pc : Nat) (ls : LS0) (st : List Value) (σ : SH) : Option NX := match st with
  | .int i :: .ref b :: r => (match hk σ b with
    | some (2, n) => if 0 ≤ i ∧ i.toNatClampNeg < n then nx pc ls (.long (σ.2.2.2 b i.toNatClampNeg) :: r) σ else none
    | _ => none)
  | _ => none
def oIast (pc : Nat) (ls : LS0) (st : List Value) (σ : SH) : Option NX := match st with
  | .int v :: .int i :: .ref b :: r => (match hk σ b with
    | some (1, n) => if 0 ≤ i ∧ i.toNatClampNeg < n then nx pc ls r (σ.1, σ.2.1, u2 σ.2.2.1 b i.toNatClampNeg v, σ.2.2.2) else none
    | _ => none)
  | _ => none
def oLast (pc : Nat) (ls : LS0) (st : List Value) (σ : SH) : Option NX := match st with
  | .long v :: .int i :: .ref b :: r => (match hk σ b with
    | some (2, n) => if 0 ≤ i ∧ i.toNatClampNeg < n then nx pc ls r (σ.1, σ.2.1, σ.2.2.1, u2 σ.2.2.2 b i.toNatClampNeg v) else none
    | _ => none)
  | _ => none
def oCpy (pc : Nat) (ls : LS0) (st : List Value) (σ : SH) : Option NX := match st with
  | [.int n, .int d, .ref b, .int s, .ref a] => (match hk σ a, hk σ b with
    | some (1, p), some (1, q) => if n = Int32.ofNat p ∧ p = q ∧ p ≤ 1000 ∧ d = 0 ∧ s = 0 then nx pc ls [] (σ.1, σ.2.1, z2 σ.2.2.1 b (σ.2.2.1 a), σ.2.2.2) else none
    | _, _ => none)
  | _ => none
def oMax (pc : Nat) (ls : LS0) (st : List Value) (σ : SH) : Option NX := match st with
  | .int y :: .int x :: r => if cS r ≤ 8 then nx pc ls (.int (imx x y) :: r) σ else none
  | _ => none
def oMin (pc : Nat) (ls : LS0) (st : List Value) (σ : SH) : Option NX := match st with
  | .int y :: .int x :: r => if cS r ≤ 8 then nx pc ls (.int (imn x y) :: r) σ else none
  | _ => none
def oOI (pc : Nat) (ls : LS0) (st : List Value) (σ : SH) : Option NX := match st with
  | .ref _ :: r => if cS r ≤ 8 then nx pc ls r σ else none
  | _ => none
/-- a call with a receiver, one without -/
def oCV (j n pc : Nat) (st : List Value) (σ : SH) : Option NX := match popA n st with
  | some (as, .ref b :: r) => if cS r ≤ 8 ∧ hk σ b = some (0, mO j) ∧ cS (.ref b :: as) ≤ mL j then some (.inr (.inr (j, .ref b :: as, pc, r))) else none
  | _ => none
def oCS (j n pc : Nat) (st : List Value) : Option NX := match popA n st with
  | some (as, r) => if cS r ≤ 8 ∧ cS as ≤ mL j then some (.inr (.inr (j, as, pc, r))) else none
  | _ => none
def oIret (st : List Value) : Option NX := match st with
  | [.int x] => some (.inr (.inl (some (.int x))))
  | _ => none
def oZret (st : List Value) : Option NX := match st with
  | [.int x] => if x = 0 ∨ x = 1 then some (.inr (.inl (some (.int x)))) else none
  | _ => none
def oLret (st : List Value) : Option NX := match st with
  | [.long x] => some (.inr (.inl (some (.long x))))
  | _ => none
def oVret (st : List Value) : Option NX := match st with
  | [] => some (.inr (.inl none))
  | _ => none
def stepI (X : SX) (k pc : Nat) (r : RI) (ls : LS0) (st : List Value) (σ : SH) : Option NX := match r with
  | (.iconst _, _, _, v, _) => nx (pc + 1) ls (.int v :: st) σ
  | (.bipush _, _, _, v, _) => nx (pc + 2) ls (.int v :: st) σ
  | (.sipush _, _, _, v, _) => nx (pc + 3) ls (.int v :: st) σ
  | (.ldc _, _, _, v, _) => nx (pc + 2) ls (.int v :: st) σ
  | (.ldc_w _, _, _, v, _) => nx (pc + 3) ls (.int v :: st) σ
  | (.lconst n, _, _, _, _) => nx (pc + 1) ls (.long (Int64.ofNat (n : Nat)) :: st) σ
  | (.ldc2_w _, _, a, _, _) => (match KLL[a]? with | some e => nx (pc + 3) ls (.long e.2.2 :: st) σ | none => none)
  | (.iload i, _, _, _, _) => oILd i (pc + 2) ls st σ
  | (.iload_n i, _, _, _, _) => oILd (i : Nat) (pc + 1) ls st σ
  | (.lload i, _, _, _, _) => oLLd i (pc + 2) ls st σ
  | (.lload_n i, _, _, _, _) => oLLd (i : Nat) (pc + 1) ls st σ
  | (.aload i, _, _, _, _) => oALd i (pc + 2) ls st σ
  | (.aload_n i, _, _, _, _) => oALd (i : Nat) (pc + 1) ls st σ
  | (.istore i, _, _, _, _) => oISt i (pc + 2) ls st σ
  | (.istore_n i, _, _, _, _) => oISt (i : Nat) (pc + 1) ls st σ
  | (.lstore i, _, _, _, _) => oLSt i (pc + 2) ls st σ
  | (.lstore_n i, _, _, _, _) => oLSt (i : Nat) (pc + 1) ls st σ
  | (.astore_n i, _, _, _, _) => oASt (i : Nat) (pc + 1) ls st σ
  | (.iinc i _, _, _, v, _) => oInc i v (pc + 3) ls st σ
  | (.iadd, _, _, _, _) => oI2 (fun x y => x + y) (pc + 1) ls st σ
  | (.isub, _, _, _, _) => oI2 (fun x y => x - y) (pc + 1) ls st σ
  | (.imul, _, _, _, _) => oI2 (fun x y => x * y) (pc + 1) ls st σ
  | (.iand, _, _, _, _) => oI2 (fun x y => x &&& y) (pc + 1) ls st σ
  | (.ior, _, _, _, _) => oI2 (fun x y => x ||| y) (pc + 1) ls st σ
  | (.ixor, _, _, _, _) => oI2 (fun x y => x ^^^ y) (pc + 1) ls st σ
  | (.ishl, _, _, _, _) => oI2 (fun x y => x <<< (y &&& 31)) (pc + 1) ls st σ
  | (.ishr, _, _, _, _) => oI2 (fun x y => x >>> (y &&& 31)) (pc + 1) ls st σ
  | (.idiv, _, _, _, _) => oIDiv (fun x y => x / y) (pc + 1) ls st σ
  | (.irem, _, _, _, _) => oIDiv (fun x y => x - x / y * y) (pc + 1) ls st σ
  | (.ladd, _, _, _, _) => oL2 (fun x y => x + y) (pc + 1) ls st σ
  | (.lsub, _, _, _, _) => oL2 (fun x y => x - y) (pc + 1) ls st σ
  | (.lmul, _, _, _, _) => oL2 (fun x y => x * y) (pc + 1) ls st σ
  | (.ldiv, _, _, _, _) => oLDiv (fun x y => x / y) (pc + 1) ls st σ
  | (.lrem, _, _, _, _) => oLDiv (fun x y => x - x / y * y) (pc + 1) ls st σ
  | (.ineg, _, _, _, _) => oNeg (pc + 1) ls st σ
  | (.i2l, _, _, _, _) => oI2L (pc + 1) ls st σ
  | (.lcmp, _, _, _, _) => oLcmp (pc + 1) ls st σ
  | (.dup, _, _, _, _) => oDup (pc + 1) ls st σ
  | (.dup2, _, _, _, _) => oDup2 (pc + 1) ls st σ
  | (.pop, _, _, _, _) => oPop (pc + 1) ls st σ
  | (.pop2, _, _, _, _) => oPop2 (pc + 1) ls st σ
  | (.ifCond c _, _, a, _, _) => oIf c a (pc + 3) ls st σ
  | (.if_icmp c _, _, a, _, _) => oIfI c a (pc + 3) ls st σ
  | (.goto _, _, a, _, _) => nx a ls st σ
  | (.tableswitch _ _ _ _, _, a, _, tb) => oSw a tb ls st σ
  | (.getfield _, _, a, _, _) => (match FL[a]? with | some e => oGf e.2.2.1 e.2.2.2 (pc + 3) ls st σ | none => none)
  | (.putfield _, _, a, _, _) => (match FL[a]? with | some e => oPf e.2.2.1 e.2.2.2 (pc + 3) ls st σ | none => none)
  | (.getstatic _, _, a, _, _) => nx (pc + 3) ls (.ref (4096 + a) :: st) σ
  | (.new _, _, a, _, _) => (match CL[a]? with | some e => oNew e.2.2 (pc + 3) ls st σ | none => none)
  | (.newarray .int, _, _, _, _) => oNewI (pc + 2) ls st σ
  | (.newarray .long, _, _, _, _) => oNewL (pc + 2) ls st σ
  | (.arraylength, _, _, _, _) => oLen X (pc + 1) ls st σ
  | (.iaload, _, _, _, _) => oIald X (pc + 1) ls st σ
  | (.iastore, _, _, _, _) => oIast (pc + 1) ls st σ
  | (.laload, _, _, _, _) => oLald (pc + 1) ls st σ
  | (.lastore, _, _, _, _) => oLast (pc + 1) ls st σ
  | (.invokevirtual _, _, a, _, _) => (match ML[a]? with | some (_, _, _, j, n) => oCV j n (pc + 3) st σ | none => none)
  | (.invokestatic _, _, a, _, _) => (match ML[a]? with
    | some (_, _, 6, _, _) => oCpy (pc + 3) ls st σ
    | some (_, _, 7, _, _) => oMax (pc + 3) ls st σ
    | some (_, _, 8, _, _) => oMin (pc + 3) ls st σ
    | some (_, _, _, j, n) => oCS j n (pc + 3) st
    | none => none)
  | (.invokespecial _, _, a, _, _) => (match ML[a]? with
    | some (_, _, 5, _, _) => oOI (pc + 3) ls st σ
    | some (_, _, _, j, n) => oCV j n (pc + 3) st σ
    | none => none)
  | (.ireturn, _, _, _, _) => (match mR k with | some .int => oIret st | some .boolean => oZret st | _ => none)
  | (.lreturn, _, _, _, _) => (match mR k with | some .long => oLret st | _ => none)
  | (.return_, _, _, _, _) => (match mR k with | none => oVret st | _ => none)
  | _ => none
def step (X : SX) (k pc : Nat) (ls : LS0) (st : List Value) (σ : SH) : Option NX := match fetch k pc with
  | some r => stepI X k pc r ls st σ
  | none => none
def psh : Option Value → List Value → List Value
  | some v, r => v :: r
  | none, r => r
def evF (X : SX) : Nat → Nat → Nat → LS0 → List Value → SH → Res
  | 0, _, _, _, _, _ => none
  | n + 1, k, pc, ls, st, σ => match step X k pc ls st σ with
    | none => none
    | some (.inl (pc', ls', st', σ')) => evF X n k pc' ls' st' σ'
    | some (.inr (.inl v)) => some (v, σ)
    | some (.inr (.inr (j, as, pc', r))) => match evF X n j 0 (entL (mL j) as) [] σ with
      | none => none
      | some (v, σ') => evF X n k pc' ls (psh v r) σ'
theorem evF_mono (X : SX) : ∀ (n m k pc : Nat) (ls : LS0) (st : List Value) (σ : SH) (x : Option Value × SH), n ≤ m → evF X n k pc ls st σ = some x → evF X m k pc ls st σ = some x := by
  intro n
  induction n with
  | zero => intro m k pc ls st σ x _ h; cases h
  | succ n ih =>
    intro m k pc ls st σ x hm h
    obtain ⟨m', rfl⟩ : ∃ m', m = m' + 1 := ⟨m - 1, by omega⟩
    unfold evF at h ⊢
    split at h
    · cases h
    · exact ih m' _ _ _ _ _ _ (by omega) h
    · exact h
    · split at h
      · cases h
      · rename_i h2
        rw [ih m' _ _ _ _ _ _ (by omega) h2]
        exact ih m' _ _ _ _ _ _ (by omega) h
noncomputable def exD (X : SX) (k pc : Nat) (ls : LS0) (st : List Value) (σ : SH) : Res :=
  @dite _ (∃ x, ∃ n, evF X n k pc ls st σ = some x) (Classical.propDecidable _) (fun h => some (Classical.choose h)) (fun _ => none)
theorem exD_iff {X : SX} {k pc : Nat} {ls : LS0} {st : List Value} {σ : SH} {x : Option Value × SH} : exD X k pc ls st σ = some x ↔ ∃ n, evF X n k pc ls st σ = some x := by
  unfold exD
  by_cases h : ∃ x, ∃ n, evF X n k pc ls st σ = some x
  · rw [dif_pos h]
    obtain ⟨n, hn⟩ := Classical.choose_spec h
    constructor
    · intro e
      exact ⟨n, by rw [hn]; exact e⟩
    · rintro ⟨m, hm⟩
      have h1 := evF_mono X n (n + m) _ _ _ _ _ _ (Nat.le_add_right _ _) hn
      have h2 := evF_mono X m (n + m) _ _ _ _ _ _ (Nat.le_add_left _ _) hm
      rw [← h1]
      exact h2
  · rw [dif_neg h]
    constructor
    · intro e; cases e
    · rintro ⟨n, hn⟩
      exact absurd ⟨x, n, hn⟩ h
noncomputable def caD (X : SX) (j : Nat) (as : List Value) (σ : SH) : Res := exD X j 0 (entL (mL j) as) [] σ
/-- what comes behind a step -/
noncomputable def bS (X : SX) (k : Nat) (ls : LS0) (σ : SH) (o : Option NX) : Res := match o with
  | none => none
  | some (.inl (pc', ls', st', σ')) => exD X k pc' ls' st' σ'
  | some (.inr (.inl v)) => some (v, σ)
  | some (.inr (.inr (j, as, pc', r))) => match caD X j as σ with
    | none => none
    | some (v, σ') => exD X k pc' ls (psh v r) σ'
theorem exD_step (X : SX) (k pc : Nat) (ls : LS0) (st : List Value) (σ : SH) : exD X k pc ls st σ = bS X k ls σ (step X k pc ls st σ) := by
  apply Option.ext
  intro x
  rw [exD_iff]
  constructor
  · rintro ⟨n, hn⟩
    cases n with
    | zero => cases hn
    | succ n =>
      unfold evF at hn
      unfold bS
      split at hn
      · cases hn
      · exact exD_iff.mpr ⟨n, hn⟩
      · exact hn
      · split at hn
        · cases hn
        · rename_i h2
          have h3 : caD X _ _ σ = some _ := exD_iff.mpr ⟨n, h2⟩
          rw [h3]
          exact exD_iff.mpr ⟨n, hn⟩
  · intro h
    unfold bS at h
    split at h
    · cases h
    · rename_i h1
      obtain ⟨n, hn⟩ := exD_iff.mp h
      exact ⟨n + 1, by unfold evF; rw [h1]; exact hn⟩
    · rename_i h1
      exact ⟨1, by unfold evF; rw [h1]; exact h⟩
    · rename_i h1
      split at h
      · cases h
      · rename_i h2
        obtain ⟨n, hn⟩ := exD_iff.mp h2
        obtain ⟨m, hm⟩ := exD_iff.mp h
        refine ⟨n + m + 1, ?_⟩
        unfold evF
        rw [h1]
        dsimp only
        rw [evF_mono X n (n + m) _ _ _ _ _ _ (by omega) hn]
        exact evF_mono X m (n + m) _ _ _ _ _ _ (by omega) hm
theorem exD_at {X : SX} {k pc : Nat} {r : RI} (h : fetch k pc = some r) (ls : LS0) (st : List Value) (σ : SH) : exD X k pc ls st σ = bS X k ls σ (stepI X k pc r ls st σ) := by
  rw [exD_step]
  unfold step
  rw [h]
theorem bS_ite (X : SX) (k : Nat) (ls : LS0) (σ : SH) (c : Prop) [Decidable c] (a b : Option NX) : bS X k ls σ (if c then a else b) = if c then bS X k ls σ a else bS X k ls σ b := by
  split <;> rfl
