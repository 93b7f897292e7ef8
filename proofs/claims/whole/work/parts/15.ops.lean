/-! one instruction, over written lists of locals and stack (printed by wip/whole/gen6.py) -/
def inB (i : Int32) (n : Nat) : Prop := 0 ≤ i ∧ i.toNatClampNeg < n
def inBd (i : Int32) (n : Nat) : Decidable (inB i n) := inferInstanceAs (Decidable (0 ≤ i ∧ i.toNatClampNeg < n))
def gR (o : Option Nat) (f : Nat → Res) : Res := match o with
  | some q => f q
  | none => none
theorem gR_some (q : Nat) (f : Nat → Res) : gR (some q) f = f q := rfl
def iaR (o : Option (Nat × Nat)) (i : Int32) (r : Res) : Res := match o with
  | some (1, n) => @ite _ (inB i n) (inBd i n) r none
  | _ => none
theorem iaR_1 (n : Nat) (i : Int32) (r : Res) : iaR (some (1, n)) i r = @ite _ (inB i n) (inBd i n) r none := rfl
def laR (o : Option (Nat × Nat)) (i : Int32) (r : Res) : Res := match o with
  | some (2, n) => @ite _ (inB i n) (inBd i n) r none
  | _ => none
theorem laR_2 (n : Nat) (i : Int32) (r : Res) : laR (some (2, n)) i r = @ite _ (inB i n) (inBd i n) r none := rfl
def lnR (o : Option (Nat × Nat)) (f : Nat → Res) : Res := match o with
  | some (1, n) => f n
  | some (2, n) => f n
  | _ => none
theorem lnR_1 (n : Nat) (f : Nat → Res) : lnR (some (1, n)) f = f n := rfl
theorem lnR_2 (n : Nat) (f : Nat → Res) : lnR (some (2, n)) f = f n := rfl
def cpR (o1 o2 : Option (Nat × Nat)) (n d s : Int32) (r : Res) : Res := match o1, o2 with
  | some (1, p), some (1, q) => if n = Int32.ofNat p ∧ p = q ∧ p ≤ 1000 ∧ d = 0 ∧ s = 0 then r else none
  | _, _ => none
theorem cpR_1 (p q : Nat) (n d s : Int32) (r : Res) : cpR (some (1, p)) (some (1, q)) n d s r = if n = Int32.ofNat p ∧ p = q ∧ p ≤ 1000 ∧ d = 0 ∧ s = 0 then r else none := rfl
def cR (o : Res) (f : Option Value → SH → Res) : Res := match o with
  | none => none
  | some (v, s) => f v s
theorem cR_some (v : Option Value) (s : SH) (f : Option Value → SH → Res) : cR (some (v, s)) f = f v s := rfl
theorem psh_v (v : Value) (r : List Value) : psh (some v) r = v :: r := rfl
theorem psh_n (r : List Value) : psh none r = r := rfl
theorem cS_0 : cS [] = 0 := rfl
theorem cS_i (x : Int32) (r : List Value) : cS (.int x :: r) = 1 + cS r := rfl
theorem cS_r (x : Nat) (r : List Value) : cS (.ref x :: r) = 1 + cS r := rfl
theorem cS_l (x : Int64) (r : List Value) : cS (.long x :: r) = 2 + cS r := rfl
theorem u2_get {α : Type} (f : Nat → Nat → α) (k j a b : Nat) (v : α) : u2 f k j v a b = if a = k then (if b = j then v else f a b) else f a b := rfl
theorem z2_get {α : Type} (f : Nat → Nat → α) (k a b : Nat) (g : Nat → α) : z2 f k g a b = if a = k then g b else f a b := rfl
theorem ca_def (X : SX) (j : Nat) (as : List Value) (σ : SH) : caD X j as σ = exD X j 0 (entL (mL j) as) [] σ := rfl
theorem bS_nx (X : SX) (k pc : Nat) (ls ls' : LS0) (st : List Value) (σ σ' : SH) : bS X k ls' σ' (nx pc ls st σ) = exD X k pc ls st σ := rfl
theorem g_iload_0 {X : SX} {k pc l a : Nat} {v : Int32} {tb : List (Int32 × Nat)} (h : fetch k pc = some (.iload_n 0, l, a, v, tb)) {x : Int32} {t : LS0} {st : List Value} {σ : SH} : exD X k pc (some (.int x) :: t) st σ = exD X k (pc + 1) (some (.int x) :: t) (.int x :: st) σ := (exD_at h _ _ _).trans rfl
theorem g_lload_0 {X : SX} {k pc l a : Nat} {v : Int32} {tb : List (Int32 × Nat)} (h : fetch k pc = some (.lload_n 0, l, a, v, tb)) {x : Int64} {t : LS0} {st : List Value} {σ : SH} : exD X k pc (some (.long x) :: t) st σ = exD X k (pc + 1) (some (.long x) :: t) (.long x :: st) σ := (exD_at h _ _ _).trans rfl
theorem g_aload_0 {X : SX} {k pc l a : Nat} {v : Int32} {tb : List (Int32 × Nat)} (h : fetch k pc = some (.aload_n 0, l, a, v, tb)) {x : Nat} {t : LS0} {st : List Value} {σ : SH} : exD X k pc (some (.ref x) :: t) st σ = exD X k (pc + 1) (some (.ref x) :: t) (.ref x :: st) σ := (exD_at h _ _ _).trans rfl
theorem g_istore_0 {X : SX} {k pc l a : Nat} {v : Int32} {tb : List (Int32 × Nat)} (h : fetch k pc = some (.istore_n 0, l, a, v, tb)) {c0 : Option Value} {x : Int32} {t : LS0} {st : List Value} {σ : SH} : exD X k pc (c0 :: t) (.int x :: st) σ = exD X k (pc + 1) (stS 0 (.int x) (c0 :: t)) st σ := (exD_at h _ _ _).trans rfl
theorem g_lstore_0 {X : SX} {k pc l a : Nat} {v : Int32} {tb : List (Int32 × Nat)} (h : fetch k pc = some (.lstore_n 0, l, a, v, tb)) {c0 c1 : Option Value} {x : Int64} {t : LS0} {st : List Value} {σ : SH} : exD X k pc (c0 :: c1 :: t) (.long x :: st) σ = exD X k (pc + 1) (stD 0 (.long x) (c0 :: c1 :: t)) st σ := (exD_at h _ _ _).trans rfl
theorem g_astore_0 {X : SX} {k pc l a : Nat} {v : Int32} {tb : List (Int32 × Nat)} (h : fetch k pc = some (.astore_n 0, l, a, v, tb)) {c0 : Option Value} {x : Nat} {t : LS0} {st : List Value} {σ : SH} : exD X k pc (c0 :: t) (.ref x :: st) σ = exD X k (pc + 1) (stS 0 (.ref x) (c0 :: t)) st σ := (exD_at h _ _ _).trans rfl
theorem g_iinc_0 {X : SX} {k pc l a : Nat} {v : Int32} {tb : List (Int32 × Nat)} {n : Int} (h : fetch k pc = some (.iinc 0 n, l, a, v, tb)) {x : Int32} {t : LS0} {st : List Value} {σ : SH} : exD X k pc (some (.int x) :: t) st σ = exD X k (pc + 3) (stS 0 (.int (x + v)) (some (.int x) :: t)) st σ := (exD_at h _ _ _).trans rfl
theorem st1_0_x {q : Option Value} {u : Value} {t : LS0} : stS 0 u (q :: t) = some u :: t := rfl
theorem st2_0_x {q q2 : Option Value} {u : Value} {t : LS0} : stD 0 u (q :: q2 :: t) = some u :: none :: t := rfl
theorem g_iload_1 {X : SX} {k pc l a : Nat} {v : Int32} {tb : List (Int32 × Nat)} (h : fetch k pc = some (.iload_n 1, l, a, v, tb)) {c0 : Option Value} {x : Int32} {t : LS0} {st : List Value} {σ : SH} : exD X k pc (c0 :: some (.int x) :: t) st σ = exD X k (pc + 1) (c0 :: some (.int x) :: t) (.int x :: st) σ := (exD_at h _ _ _).trans rfl
theorem g_lload_1 {X : SX} {k pc l a : Nat} {v : Int32} {tb : List (Int32 × Nat)} (h : fetch k pc = some (.lload_n 1, l, a, v, tb)) {c0 : Option Value} {x : Int64} {t : LS0} {st : List Value} {σ : SH} : exD X k pc (c0 :: some (.long x) :: t) st σ = exD X k (pc + 1) (c0 :: some (.long x) :: t) (.long x :: st) σ := (exD_at h _ _ _).trans rfl
theorem g_aload_1 {X : SX} {k pc l a : Nat} {v : Int32} {tb : List (Int32 × Nat)} (h : fetch k pc = some (.aload_n 1, l, a, v, tb)) {c0 : Option Value} {x : Nat} {t : LS0} {st : List Value} {σ : SH} : exD X k pc (c0 :: some (.ref x) :: t) st σ = exD X k (pc + 1) (c0 :: some (.ref x) :: t) (.ref x :: st) σ := (exD_at h _ _ _).trans rfl
theorem g_istore_1 {X : SX} {k pc l a : Nat} {v : Int32} {tb : List (Int32 × Nat)} (h : fetch k pc = some (.istore_n 1, l, a, v, tb)) {c0 c1 : Option Value} {x : Int32} {t : LS0} {st : List Value} {σ : SH} : exD X k pc (c0 :: c1 :: t) (.int x :: st) σ = exD X k (pc + 1) (stS 1 (.int x) (c0 :: c1 :: t)) st σ := (exD_at h _ _ _).trans rfl
theorem g_lstore_1 {X : SX} {k pc l a : Nat} {v : Int32} {tb : List (Int32 × Nat)} (h : fetch k pc = some (.lstore_n 1, l, a, v, tb)) {c0 c1 c2 : Option Value} {x : Int64} {t : LS0} {st : List Value} {σ : SH} : exD X k pc (c0 :: c1 :: c2 :: t) (.long x :: st) σ = exD X k (pc + 1) (stD 1 (.long x) (c0 :: c1 :: c2 :: t)) st σ := (exD_at h _ _ _).trans rfl
theorem g_astore_1 {X : SX} {k pc l a : Nat} {v : Int32} {tb : List (Int32 × Nat)} (h : fetch k pc = some (.astore_n 1, l, a, v, tb)) {c0 c1 : Option Value} {x : Nat} {t : LS0} {st : List Value} {σ : SH} : exD X k pc (c0 :: c1 :: t) (.ref x :: st) σ = exD X k (pc + 1) (stS 1 (.ref x) (c0 :: c1 :: t)) st σ := (exD_at h _ _ _).trans rfl
theorem g_iinc_1 {X : SX} {k pc l a : Nat} {v : Int32} {tb : List (Int32 × Nat)} {n : Int} (h : fetch k pc = some (.iinc 1 n, l, a, v, tb)) {c0 : Option Value} {x : Int32} {t : LS0} {st : List Value} {σ : SH} : exD X k pc (c0 :: some (.int x) :: t) st σ = exD X k (pc + 3) (stS 1 (.int (x + v)) (c0 :: some (.int x) :: t)) st σ := (exD_at h _ _ _).trans rfl
theorem st1_1_n {q : Option Value} {u : Value} {t : LS0} : stS 1 u (none :: q :: t) = none :: some u :: t := rfl
theorem st2_1_n {q q2 : Option Value} {u : Value} {t : LS0} : stD 1 u (none :: q :: q2 :: t) = none :: some u :: none :: t := rfl
theorem st1_1_i {y : Int32} {q : Option Value} {u : Value} {t : LS0} : stS 1 u (some (.int y) :: q :: t) = some (.int y) :: some u :: t := rfl
theorem st2_1_i {y : Int32} {q q2 : Option Value} {u : Value} {t : LS0} : stD 1 u (some (.int y) :: q :: q2 :: t) = some (.int y) :: some u :: none :: t := rfl
theorem st1_1_r {z : Nat} {q : Option Value} {u : Value} {t : LS0} : stS 1 u (some (.ref z) :: q :: t) = some (.ref z) :: some u :: t := rfl
theorem st2_1_r {z : Nat} {q q2 : Option Value} {u : Value} {t : LS0} : stD 1 u (some (.ref z) :: q :: q2 :: t) = some (.ref z) :: some u :: none :: t := rfl
theorem g_iload_2 {X : SX} {k pc l a : Nat} {v : Int32} {tb : List (Int32 × Nat)} (h : fetch k pc = some (.iload_n 2, l, a, v, tb)) {c0 c1 : Option Value} {x : Int32} {t : LS0} {st : List Value} {σ : SH} : exD X k pc (c0 :: c1 :: some (.int x) :: t) st σ = exD X k (pc + 1) (c0 :: c1 :: some (.int x) :: t) (.int x :: st) σ := (exD_at h _ _ _).trans rfl
theorem g_lload_2 {X : SX} {k pc l a : Nat} {v : Int32} {tb : List (Int32 × Nat)} (h : fetch k pc = some (.lload_n 2, l, a, v, tb)) {c0 c1 : Option Value} {x : Int64} {t : LS0} {st : List Value} {σ : SH} : exD X k pc (c0 :: c1 :: some (.long x) :: t) st σ = exD X k (pc + 1) (c0 :: c1 :: some (.long x) :: t) (.long x :: st) σ := (exD_at h _ _ _).trans rfl
theorem g_aload_2 {X : SX} {k pc l a : Nat} {v : Int32} {tb : List (Int32 × Nat)} (h : fetch k pc = some (.aload_n 2, l, a, v, tb)) {c0 c1 : Option Value} {x : Nat} {t : LS0} {st : List Value} {σ : SH} : exD X k pc (c0 :: c1 :: some (.ref x) :: t) st σ = exD X k (pc + 1) (c0 :: c1 :: some (.ref x) :: t) (.ref x :: st) σ := (exD_at h _ _ _).trans rfl
theorem g_istore_2 {X : SX} {k pc l a : Nat} {v : Int32} {tb : List (Int32 × Nat)} (h : fetch k pc = some (.istore_n 2, l, a, v, tb)) {c0 c1 c2 : Option Value} {x : Int32} {t : LS0} {st : List Value} {σ : SH} : exD X k pc (c0 :: c1 :: c2 :: t) (.int x :: st) σ = exD X k (pc + 1) (stS 2 (.int x) (c0 :: c1 :: c2 :: t)) st σ := (exD_at h _ _ _).trans rfl
theorem g_lstore_2 {X : SX} {k pc l a : Nat} {v : Int32} {tb : List (Int32 × Nat)} (h : fetch k pc = some (.lstore_n 2, l, a, v, tb)) {c0 c1 c2 c3 : Option Value} {x : Int64} {t : LS0} {st : List Value} {σ : SH} : exD X k pc (c0 :: c1 :: c2 :: c3 :: t) (.long x :: st) σ = exD X k (pc + 1) (stD 2 (.long x) (c0 :: c1 :: c2 :: c3 :: t)) st σ := (exD_at h _ _ _).trans rfl
theorem g_astore_2 {X : SX} {k pc l a : Nat} {v : Int32} {tb : List (Int32 × Nat)} (h : fetch k pc = some (.astore_n 2, l, a, v, tb)) {c0 c1 c2 : Option Value} {x : Nat} {t : LS0} {st : List Value} {σ : SH} : exD X k pc (c0 :: c1 :: c2 :: t) (.ref x :: st) σ = exD X k (pc + 1) (stS 2 (.ref x) (c0 :: c1 :: c2 :: t)) st σ := (exD_at h _ _ _).trans rfl
theorem g_iinc_2 {X : SX} {k pc l a : Nat} {v : Int32} {tb : List (Int32 × Nat)} {n : Int} (h : fetch k pc = some (.iinc 2 n, l, a, v, tb)) {c0 c1 : Option Value} {x : Int32} {t : LS0} {st : List Value} {σ : SH} : exD X k pc (c0 :: c1 :: some (.int x) :: t) st σ = exD X k (pc + 3) (stS 2 (.int (x + v)) (c0 :: c1 :: some (.int x) :: t)) st σ := (exD_at h _ _ _).trans rfl
theorem st1_2_n {c0 : Option Value} {q : Option Value} {u : Value} {t : LS0} : stS 2 u (c0 :: none :: q :: t) = c0 :: none :: some u :: t := rfl
theorem st2_2_n {c0 : Option Value} {q q2 : Option Value} {u : Value} {t : LS0} : stD 2 u (c0 :: none :: q :: q2 :: t) = c0 :: none :: some u :: none :: t := rfl
theorem st1_2_i {c0 : Option Value} {y : Int32} {q : Option Value} {u : Value} {t : LS0} : stS 2 u (c0 :: some (.int y) :: q :: t) = c0 :: some (.int y) :: some u :: t := rfl
theorem st2_2_i {c0 : Option Value} {y : Int32} {q q2 : Option Value} {u : Value} {t : LS0} : stD 2 u (c0 :: some (.int y) :: q :: q2 :: t) = c0 :: some (.int y) :: some u :: none :: t := rfl
theorem st1_2_r {c0 : Option Value} {z : Nat} {q : Option Value} {u : Value} {t : LS0} : stS 2 u (c0 :: some (.ref z) :: q :: t) = c0 :: some (.ref z) :: some u :: t := rfl
theorem st2_2_r {c0 : Option Value} {z : Nat} {q q2 : Option Value} {u : Value} {t : LS0} : stD 2 u (c0 :: some (.ref z) :: q :: q2 :: t) = c0 :: some (.ref z) :: some u :: none :: t := rfl
theorem g_iload_3 {X : SX} {k pc l a : Nat} {v : Int32} {tb : List (Int32 × Nat)} (h : fetch k pc = some (.iload_n 3, l, a, v, tb)) {c0 c1 c2 : Option Value} {x : Int32} {t : LS0} {st : List Value} {σ : SH} : exD X k pc (c0 :: c1 :: c2 :: some (.int x) :: t) st σ = exD X k (pc + 1) (c0 :: c1 :: c2 :: some (.int x) :: t) (.int x :: st) σ := (exD_at h _ _ _).trans rfl
theorem g_lload_3 {X : SX} {k pc l a : Nat} {v : Int32} {tb : List (Int32 × Nat)} (h : fetch k pc = some (.lload_n 3, l, a, v, tb)) {c0 c1 c2 : Option Value} {x : Int64} {t : LS0} {st : List Value} {σ : SH} : exD X k pc (c0 :: c1 :: c2 :: some (.long x) :: t) st σ = exD X k (pc + 1) (c0 :: c1 :: c2 :: some (.long x) :: t) (.long x :: st) σ := (exD_at h _ _ _).trans rfl
theorem g_aload_3 {X : SX} {k pc l a : Nat} {v : Int32} {tb : List (Int32 × Nat)} (h : fetch k pc = some (.aload_n 3, l, a, v, tb)) {c0 c1 c2 : Option Value} {x : Nat} {t : LS0} {st : List Value} {σ : SH} : exD X k pc (c0 :: c1 :: c2 :: some (.ref x) :: t) st σ = exD X k (pc + 1) (c0 :: c1 :: c2 :: some (.ref x) :: t) (.ref x :: st) σ := (exD_at h _ _ _).trans rfl
theorem g_istore_3 {X : SX} {k pc l a : Nat} {v : Int32} {tb : List (Int32 × Nat)} (h : fetch k pc = some (.istore_n 3, l, a, v, tb)) {c0 c1 c2 c3 : Option Value} {x : Int32} {t : LS0} {st : List Value} {σ : SH} : exD X k pc (c0 :: c1 :: c2 :: c3 :: t) (.int x :: st) σ = exD X k (pc + 1) (stS 3 (.int x) (c0 :: c1 :: c2 :: c3 :: t)) st σ := (exD_at h _ _ _).trans rfl
theorem g_lstore_3 {X : SX} {k pc l a : Nat} {v : Int32} {tb : List (Int32 × Nat)} (h : fetch k pc = some (.lstore_n 3, l, a, v, tb)) {c0 c1 c2 c3 c4 : Option Value} {x : Int64} {t : LS0} {st : List Value} {σ : SH} : exD X k pc (c0 :: c1 :: c2 :: c3 :: c4 :: t) (.long x :: st) σ = exD X k (pc + 1) (stD 3 (.long x) (c0 :: c1 :: c2 :: c3 :: c4 :: t)) st σ := (exD_at h _ _ _).trans rfl
theorem g_astore_3 {X : SX} {k pc l a : Nat} {v : Int32} {tb : List (Int32 × Nat)} (h : fetch k pc = some (.astore_n 3, l, a, v, tb)) {c0 c1 c2 c3 : Option Value} {x : Nat} {t : LS0} {st : List Value} {σ : SH} : exD X k pc (c0 :: c1 :: c2 :: c3 :: t) (.ref x :: st) σ = exD X k (pc + 1) (stS 3 (.ref x) (c0 :: c1 :: c2 :: c3 :: t)) st σ := (exD_at h _ _ _).trans rfl
theorem g_iinc_3 {X : SX} {k pc l a : Nat} {v : Int32} {tb : List (Int32 × Nat)} {n : Int} (h : fetch k pc = some (.iinc 3 n, l, a, v, tb)) {c0 c1 c2 : Option Value} {x : Int32} {t : LS0} {st : List Value} {σ : SH} : exD X k pc (c0 :: c1 :: c2 :: some (.int x) :: t) st σ = exD X k (pc + 3) (stS 3 (.int (x + v)) (c0 :: c1 :: c2 :: some (.int x) :: t)) st σ := (exD_at h _ _ _).trans rfl
theorem st1_3_n {c0 c1 : Option Value} {q : Option Value} {u : Value} {t : LS0} : stS 3 u (c0 :: c1 :: none :: q :: t) = c0 :: c1 :: none :: some u :: t := rfl
theorem st2_3_n {c0 c1 : Option Value} {q q2 : Option Value} {u : Value} {t : LS0} : stD 3 u (c0 :: c1 :: none :: q :: q2 :: t) = c0 :: c1 :: none :: some u :: none :: t := rfl
theorem st1_3_i {c0 c1 : Option Value} {y : Int32} {q : Option Value} {u : Value} {t : LS0} : stS 3 u (c0 :: c1 :: some (.int y) :: q :: t) = c0 :: c1 :: some (.int y) :: some u :: t := rfl
theorem st2_3_i {c0 c1 : Option Value} {y : Int32} {q q2 : Option Value} {u : Value} {t : LS0} : stD 3 u (c0 :: c1 :: some (.int y) :: q :: q2 :: t) = c0 :: c1 :: some (.int y) :: some u :: none :: t := rfl
theorem st1_3_r {c0 c1 : Option Value} {z : Nat} {q : Option Value} {u : Value} {t : LS0} : stS 3 u (c0 :: c1 :: some (.ref z) :: q :: t) = c0 :: c1 :: some (.ref z) :: some u :: t := rfl
theorem st2_3_r {c0 c1 : Option Value} {z : Nat} {q q2 : Option Value} {u : Value} {t : LS0} : stD 3 u (c0 :: c1 :: some (.ref z) :: q :: q2 :: t) = c0 :: c1 :: some (.ref z) :: some u :: none :: t := rfl
theorem g_iload_4 {X : SX} {k pc l a : Nat} {v : Int32} {tb : List (Int32 × Nat)} (h : fetch k pc = some (.iload 4, l, a, v, tb)) {c0 c1 c2 c3 : Option Value} {x : Int32} {t : LS0} {st : List Value} {σ : SH} : exD X k pc (c0 :: c1 :: c2 :: c3 :: some (.int x) :: t) st σ = exD X k (pc + 2) (c0 :: c1 :: c2 :: c3 :: some (.int x) :: t) (.int x :: st) σ := (exD_at h _ _ _).trans rfl
theorem g_lload_4 {X : SX} {k pc l a : Nat} {v : Int32} {tb : List (Int32 × Nat)} (h : fetch k pc = some (.lload 4, l, a, v, tb)) {c0 c1 c2 c3 : Option Value} {x : Int64} {t : LS0} {st : List Value} {σ : SH} : exD X k pc (c0 :: c1 :: c2 :: c3 :: some (.long x) :: t) st σ = exD X k (pc + 2) (c0 :: c1 :: c2 :: c3 :: some (.long x) :: t) (.long x :: st) σ := (exD_at h _ _ _).trans rfl
theorem g_aload_4 {X : SX} {k pc l a : Nat} {v : Int32} {tb : List (Int32 × Nat)} (h : fetch k pc = some (.aload 4, l, a, v, tb)) {c0 c1 c2 c3 : Option Value} {x : Nat} {t : LS0} {st : List Value} {σ : SH} : exD X k pc (c0 :: c1 :: c2 :: c3 :: some (.ref x) :: t) st σ = exD X k (pc + 2) (c0 :: c1 :: c2 :: c3 :: some (.ref x) :: t) (.ref x :: st) σ := (exD_at h _ _ _).trans rfl
theorem g_istore_4 {X : SX} {k pc l a : Nat} {v : Int32} {tb : List (Int32 × Nat)} (h : fetch k pc = some (.istore 4, l, a, v, tb)) {c0 c1 c2 c3 c4 : Option Value} {x : Int32} {t : LS0} {st : List Value} {σ : SH} : exD X k pc (c0 :: c1 :: c2 :: c3 :: c4 :: t) (.int x :: st) σ = exD X k (pc + 2) (stS 4 (.int x) (c0 :: c1 :: c2 :: c3 :: c4 :: t)) st σ := (exD_at h _ _ _).trans rfl
theorem g_lstore_4 {X : SX} {k pc l a : Nat} {v : Int32} {tb : List (Int32 × Nat)} (h : fetch k pc = some (.lstore 4, l, a, v, tb)) {c0 c1 c2 c3 c4 c5 : Option Value} {x : Int64} {t : LS0} {st : List Value} {σ : SH} : exD X k pc (c0 :: c1 :: c2 :: c3 :: c4 :: c5 :: t) (.long x :: st) σ = exD X k (pc + 2) (stD 4 (.long x) (c0 :: c1 :: c2 :: c3 :: c4 :: c5 :: t)) st σ := (exD_at h _ _ _).trans rfl
theorem g_iinc_4 {X : SX} {k pc l a : Nat} {v : Int32} {tb : List (Int32 × Nat)} {n : Int} (h : fetch k pc = some (.iinc 4 n, l, a, v, tb)) {c0 c1 c2 c3 : Option Value} {x : Int32} {t : LS0} {st : List Value} {σ : SH} : exD X k pc (c0 :: c1 :: c2 :: c3 :: some (.int x) :: t) st σ = exD X k (pc + 3) (stS 4 (.int (x + v)) (c0 :: c1 :: c2 :: c3 :: some (.int x) :: t)) st σ := (exD_at h _ _ _).trans rfl
theorem st1_4_n {c0 c1 c2 : Option Value} {q : Option Value} {u : Value} {t : LS0} : stS 4 u (c0 :: c1 :: c2 :: none :: q :: t) = c0 :: c1 :: c2 :: none :: some u :: t := rfl
theorem st2_4_n {c0 c1 c2 : Option Value} {q q2 : Option Value} {u : Value} {t : LS0} : stD 4 u (c0 :: c1 :: c2 :: none :: q :: q2 :: t) = c0 :: c1 :: c2 :: none :: some u :: none :: t := rfl
theorem st1_4_i {c0 c1 c2 : Option Value} {y : Int32} {q : Option Value} {u : Value} {t : LS0} : stS 4 u (c0 :: c1 :: c2 :: some (.int y) :: q :: t) = c0 :: c1 :: c2 :: some (.int y) :: some u :: t := rfl
theorem st2_4_i {c0 c1 c2 : Option Value} {y : Int32} {q q2 : Option Value} {u : Value} {t : LS0} : stD 4 u (c0 :: c1 :: c2 :: some (.int y) :: q :: q2 :: t) = c0 :: c1 :: c2 :: some (.int y) :: some u :: none :: t := rfl
theorem st1_4_r {c0 c1 c2 : Option Value} {z : Nat} {q : Option Value} {u : Value} {t : LS0} : stS 4 u (c0 :: c1 :: c2 :: some (.ref z) :: q :: t) = c0 :: c1 :: c2 :: some (.ref z) :: some u :: t := rfl
theorem st2_4_r {c0 c1 c2 : Option Value} {z : Nat} {q q2 : Option Value} {u : Value} {t : LS0} : stD 4 u (c0 :: c1 :: c2 :: some (.ref z) :: q :: q2 :: t) = c0 :: c1 :: c2 :: some (.ref z) :: some u :: none :: t := rfl
theorem g_iload_5 {X : SX} {k pc l a : Nat} {v : Int32} {tb : List (Int32 × Nat)} (h : fetch k pc = some (.iload 5, l, a, v, tb)) {c0 c1 c2 c3 c4 : Option Value} {x : Int32} {t : LS0} {st : List Value} {σ : SH} : exD X k pc (c0 :: c1 :: c2 :: c3 :: c4 :: some (.int x) :: t) st σ = exD X k (pc + 2) (c0 :: c1 :: c2 :: c3 :: c4 :: some (.int x) :: t) (.int x :: st) σ := (exD_at h _ _ _).trans rfl
theorem g_lload_5 {X : SX} {k pc l a : Nat} {v : Int32} {tb : List (Int32 × Nat)} (h : fetch k pc = some (.lload 5, l, a, v, tb)) {c0 c1 c2 c3 c4 : Option Value} {x : Int64} {t : LS0} {st : List Value} {σ : SH} : exD X k pc (c0 :: c1 :: c2 :: c3 :: c4 :: some (.long x) :: t) st σ = exD X k (pc + 2) (c0 :: c1 :: c2 :: c3 :: c4 :: some (.long x) :: t) (.long x :: st) σ := (exD_at h _ _ _).trans rfl
theorem g_aload_5 {X : SX} {k pc l a : Nat} {v : Int32} {tb : List (Int32 × Nat)} (h : fetch k pc = some (.aload 5, l, a, v, tb)) {c0 c1 c2 c3 c4 : Option Value} {x : Nat} {t : LS0} {st : List Value} {σ : SH} : exD X k pc (c0 :: c1 :: c2 :: c3 :: c4 :: some (.ref x) :: t) st σ = exD X k (pc + 2) (c0 :: c1 :: c2 :: c3 :: c4 :: some (.ref x) :: t) (.ref x :: st) σ := (exD_at h _ _ _).trans rfl
theorem g_istore_5 {X : SX} {k pc l a : Nat} {v : Int32} {tb : List (Int32 × Nat)} (h : fetch k pc = some (.istore 5, l, a, v, tb)) {c0 c1 c2 c3 c4 c5 : Option Value} {x : Int32} {t : LS0} {st : List Value} {σ : SH} : exD X k pc (c0 :: c1 :: c2 :: c3 :: c4 :: c5 :: t) (.int x :: st) σ = exD X k (pc + 2) (stS 5 (.int x) (c0 :: c1 :: c2 :: c3 :: c4 :: c5 :: t)) st σ := (exD_at h _ _ _).trans rfl
theorem g_lstore_5 {X : SX} {k pc l a : Nat} {v : Int32} {tb : List (Int32 × Nat)} (h : fetch k pc = some (.lstore 5, l, a, v, tb)) {c0 c1 c2 c3 c4 c5 c6 : Option Value} {x : Int64} {t : LS0} {st : List Value} {σ : SH} : exD X k pc (c0 :: c1 :: c2 :: c3 :: c4 :: c5 :: c6 :: t) (.long x :: st) σ = exD X k (pc + 2) (stD 5 (.long x) (c0 :: c1 :: c2 :: c3 :: c4 :: c5 :: c6 :: t)) st σ := (exD_at h _ _ _).trans rfl
theorem g_iinc_5 {X : SX} {k pc l a : Nat} {v : Int32} {tb : List (Int32 × Nat)} {n : Int} (h : fetch k pc = some (.iinc 5 n, l, a, v, tb)) {c0 c1 c2 c3 c4 : Option Value} {x : Int32} {t : LS0} {st : List Value} {σ : SH} : exD X k pc (c0 :: c1 :: c2 :: c3 :: c4 :: some (.int x) :: t) st σ = exD X k (pc + 3) (stS 5 (.int (x + v)) (c0 :: c1 :: c2 :: c3 :: c4 :: some (.int x) :: t)) st σ := (exD_at h _ _ _).trans rfl
theorem st1_5_n {c0 c1 c2 c3 : Option Value} {q : Option Value} {u : Value} {t : LS0} : stS 5 u (c0 :: c1 :: c2 :: c3 :: none :: q :: t) = c0 :: c1 :: c2 :: c3 :: none :: some u :: t := rfl
theorem st2_5_n {c0 c1 c2 c3 : Option Value} {q q2 : Option Value} {u : Value} {t : LS0} : stD 5 u (c0 :: c1 :: c2 :: c3 :: none :: q :: q2 :: t) = c0 :: c1 :: c2 :: c3 :: none :: some u :: none :: t := rfl
theorem st1_5_i {c0 c1 c2 c3 : Option Value} {y : Int32} {q : Option Value} {u : Value} {t : LS0} : stS 5 u (c0 :: c1 :: c2 :: c3 :: some (.int y) :: q :: t) = c0 :: c1 :: c2 :: c3 :: some (.int y) :: some u :: t := rfl
theorem st2_5_i {c0 c1 c2 c3 : Option Value} {y : Int32} {q q2 : Option Value} {u : Value} {t : LS0} : stD 5 u (c0 :: c1 :: c2 :: c3 :: some (.int y) :: q :: q2 :: t) = c0 :: c1 :: c2 :: c3 :: some (.int y) :: some u :: none :: t := rfl
theorem st1_5_r {c0 c1 c2 c3 : Option Value} {z : Nat} {q : Option Value} {u : Value} {t : LS0} : stS 5 u (c0 :: c1 :: c2 :: c3 :: some (.ref z) :: q :: t) = c0 :: c1 :: c2 :: c3 :: some (.ref z) :: some u :: t := rfl
theorem st2_5_r {c0 c1 c2 c3 : Option Value} {z : Nat} {q q2 : Option Value} {u : Value} {t : LS0} : stD 5 u (c0 :: c1 :: c2 :: c3 :: some (.ref z) :: q :: q2 :: t) = c0 :: c1 :: c2 :: c3 :: some (.ref z) :: some u :: none :: t := rfl
theorem g_iload_6 {X : SX} {k pc l a : Nat} {v : Int32} {tb : List (Int32 × Nat)} (h : fetch k pc = some (.iload 6, l, a, v, tb)) {c0 c1 c2 c3 c4 c5 : Option Value} {x : Int32} {t : LS0} {st : List Value} {σ : SH} : exD X k pc (c0 :: c1 :: c2 :: c3 :: c4 :: c5 :: some (.int x) :: t) st σ = exD X k (pc + 2) (c0 :: c1 :: c2 :: c3 :: c4 :: c5 :: some (.int x) :: t) (.int x :: st) σ := (exD_at h _ _ _).trans rfl
theorem g_lload_6 {X : SX} {k pc l a : Nat} {v : Int32} {tb : List (Int32 × Nat)} (h : fetch k pc = some (.lload 6, l, a, v, tb)) {c0 c1 c2 c3 c4 c5 : Option Value} {x : Int64} {t : LS0} {st : List Value} {σ : SH} : exD X k pc (c0 :: c1 :: c2 :: c3 :: c4 :: c5 :: some (.long x) :: t) st σ = exD X k (pc + 2) (c0 :: c1 :: c2 :: c3 :: c4 :: c5 :: some (.long x) :: t) (.long x :: st) σ := (exD_at h _ _ _).trans rfl
theorem g_aload_6 {X : SX} {k pc l a : Nat} {v : Int32} {tb : List (Int32 × Nat)} (h : fetch k pc = some (.aload 6, l, a, v, tb)) {c0 c1 c2 c3 c4 c5 : Option Value} {x : Nat} {t : LS0} {st : List Value} {σ : SH} : exD X k pc (c0 :: c1 :: c2 :: c3 :: c4 :: c5 :: some (.ref x) :: t) st σ = exD X k (pc + 2) (c0 :: c1 :: c2 :: c3 :: c4 :: c5 :: some (.ref x) :: t) (.ref x :: st) σ := (exD_at h _ _ _).trans rfl
theorem g_istore_6 {X : SX} {k pc l a : Nat} {v : Int32} {tb : List (Int32 × Nat)} (h : fetch k pc = some (.istore 6, l, a, v, tb)) {c0 c1 c2 c3 c4 c5 c6 : Option Value} {x : Int32} {t : LS0} {st : List Value} {σ : SH} : exD X k pc (c0 :: c1 :: c2 :: c3 :: c4 :: c5 :: c6 :: t) (.int x :: st) σ = exD X k (pc + 2) (stS 6 (.int x) (c0 :: c1 :: c2 :: c3 :: c4 :: c5 :: c6 :: t)) st σ := (exD_at h _ _ _).trans rfl
theorem g_lstore_6 {X : SX} {k pc l a : Nat} {v : Int32} {tb : List (Int32 × Nat)} (h : fetch k pc = some (.lstore 6, l, a, v, tb)) {c0 c1 c2 c3 c4 c5 c6 c7 : Option Value} {x : Int64} {t : LS0} {st : List Value} {σ : SH} : exD X k pc (c0 :: c1 :: c2 :: c3 :: c4 :: c5 :: c6 :: c7 :: t) (.long x :: st) σ = exD X k (pc + 2) (stD 6 (.long x) (c0 :: c1 :: c2 :: c3 :: c4 :: c5 :: c6 :: c7 :: t)) st σ := (exD_at h _ _ _).trans rfl
theorem g_iinc_6 {X : SX} {k pc l a : Nat} {v : Int32} {tb : List (Int32 × Nat)} {n : Int} (h : fetch k pc = some (.iinc 6 n, l, a, v, tb)) {c0 c1 c2 c3 c4 c5 : Option Value} {x : Int32} {t : LS0} {st : List Value} {σ : SH} : exD X k pc (c0 :: c1 :: c2 :: c3 :: c4 :: c5 :: some (.int x) :: t) st σ = exD X k (pc + 3) (stS 6 (.int (x + v)) (c0 :: c1 :: c2 :: c3 :: c4 :: c5 :: some (.int x) :: t)) st σ := (exD_at h _ _ _).trans rfl
theorem st1_6_n {c0 c1 c2 c3 c4 : Option Value} {q : Option Value} {u : Value} {t : LS0} : stS 6 u (c0 :: c1 :: c2 :: c3 :: c4 :: none :: q :: t) = c0 :: c1 :: c2 :: c3 :: c4 :: none :: some u :: t := rfl
theorem st2_6_n {c0 c1 c2 c3 c4 : Option Value} {q q2 : Option Value} {u : Value} {t : LS0} : stD 6 u (c0 :: c1 :: c2 :: c3 :: c4 :: none :: q :: q2 :: t) = c0 :: c1 :: c2 :: c3 :: c4 :: none :: some u :: none :: t := rfl
theorem st1_6_i {c0 c1 c2 c3 c4 : Option Value} {y : Int32} {q : Option Value} {u : Value} {t : LS0} : stS 6 u (c0 :: c1 :: c2 :: c3 :: c4 :: some (.int y) :: q :: t) = c0 :: c1 :: c2 :: c3 :: c4 :: some (.int y) :: some u :: t := rfl
theorem st2_6_i {c0 c1 c2 c3 c4 : Option Value} {y : Int32} {q q2 : Option Value} {u : Value} {t : LS0} : stD 6 u (c0 :: c1 :: c2 :: c3 :: c4 :: some (.int y) :: q :: q2 :: t) = c0 :: c1 :: c2 :: c3 :: c4 :: some (.int y) :: some u :: none :: t := rfl
theorem st1_6_r {c0 c1 c2 c3 c4 : Option Value} {z : Nat} {q : Option Value} {u : Value} {t : LS0} : stS 6 u (c0 :: c1 :: c2 :: c3 :: c4 :: some (.ref z) :: q :: t) = c0 :: c1 :: c2 :: c3 :: c4 :: some (.ref z) :: some u :: t := rfl
theorem st2_6_r {c0 c1 c2 c3 c4 : Option Value} {z : Nat} {q q2 : Option Value} {u : Value} {t : LS0} : stD 6 u (c0 :: c1 :: c2 :: c3 :: c4 :: some (.ref z) :: q :: q2 :: t) = c0 :: c1 :: c2 :: c3 :: c4 :: some (.ref z) :: some u :: none :: t := rfl
theorem g_iload_7 {X : SX} {k pc l a : Nat} {v : Int32} {tb : List (Int32 × Nat)} (h : fetch k pc = some (.iload 7, l, a, v, tb)) {c0 c1 c2 c3 c4 c5 c6 : Option Value} {x : Int32} {t : LS0} {st : List Value} {σ : SH} : exD X k pc (c0 :: c1 :: c2 :: c3 :: c4 :: c5 :: c6 :: some (.int x) :: t) st σ = exD X k (pc + 2) (c0 :: c1 :: c2 :: c3 :: c4 :: c5 :: c6 :: some (.int x) :: t) (.int x :: st) σ := (exD_at h _ _ _).trans rfl
theorem g_lload_7 {X : SX} {k pc l a : Nat} {v : Int32} {tb : List (Int32 × Nat)} (h : fetch k pc = some (.lload 7, l, a, v, tb)) {c0 c1 c2 c3 c4 c5 c6 : Option Value} {x : Int64} {t : LS0} {st : List Value} {σ : SH} : exD X k pc (c0 :: c1 :: c2 :: c3 :: c4 :: c5 :: c6 :: some (.long x) :: t) st σ = exD X k (pc + 2) (c0 :: c1 :: c2 :: c3 :: c4 :: c5 :: c6 :: some (.long x) :: t) (.long x :: st) σ := (exD_at h _ _ _).trans rfl
theorem g_aload_7 {X : SX} {k pc l a : Nat} {v : Int32} {tb : List (Int32 × Nat)} (h : fetch k pc = some (.aload 7, l, a, v, tb)) {c0 c1 c2 c3 c4 c5 c6 : Option Value} {x : Nat} {t : LS0} {st : List Value} {σ : SH} : exD X k pc (c0 :: c1 :: c2 :: c3 :: c4 :: c5 :: c6 :: some (.ref x) :: t) st σ = exD X k (pc + 2) (c0 :: c1 :: c2 :: c3 :: c4 :: c5 :: c6 :: some (.ref x) :: t) (.ref x :: st) σ := (exD_at h _ _ _).trans rfl
theorem g_istore_7 {X : SX} {k pc l a : Nat} {v : Int32} {tb : List (Int32 × Nat)} (h : fetch k pc = some (.istore 7, l, a, v, tb)) {c0 c1 c2 c3 c4 c5 c6 c7 : Option Value} {x : Int32} {t : LS0} {st : List Value} {σ : SH} : exD X k pc (c0 :: c1 :: c2 :: c3 :: c4 :: c5 :: c6 :: c7 :: t) (.int x :: st) σ = exD X k (pc + 2) (stS 7 (.int x) (c0 :: c1 :: c2 :: c3 :: c4 :: c5 :: c6 :: c7 :: t)) st σ := (exD_at h _ _ _).trans rfl
theorem g_lstore_7 {X : SX} {k pc l a : Nat} {v : Int32} {tb : List (Int32 × Nat)} (h : fetch k pc = some (.lstore 7, l, a, v, tb)) {c0 c1 c2 c3 c4 c5 c6 c7 c8 : Option Value} {x : Int64} {t : LS0} {st : List Value} {σ : SH} : exD X k pc (c0 :: c1 :: c2 :: c3 :: c4 :: c5 :: c6 :: c7 :: c8 :: t) (.long x :: st) σ = exD X k (pc + 2) (stD 7 (.long x) (c0 :: c1 :: c2 :: c3 :: c4 :: c5 :: c6 :: c7 :: c8 :: t)) st σ := (exD_at h _ _ _).trans rfl
theorem g_iinc_7 {X : SX} {k pc l a : Nat} {v : Int32} {tb : List (Int32 × Nat)} {n : Int} (h : fetch k pc = some (.iinc 7 n, l, a, v, tb)) {c0 c1 c2 c3 c4 c5 c6 : Option Value} {x : Int32} {t : LS0} {st : List Value} {σ : SH} : exD X k pc (c0 :: c1 :: c2 :: c3 :: c4 :: c5 :: c6 :: some (.int x) :: t) st σ = exD X k (pc + 3) (stS 7 (.int (x + v)) (c0 :: c1 :: c2 :: c3 :: c4 :: c5 :: c6 :: some (.int x) :: t)) st σ := (exD_at h _ _ _).trans rfl
theorem st1_7_n {c0 c1 c2 c3 c4 c5 : Option Value} {q : Option Value} {u : Value} {t : LS0} : stS 7 u (c0 :: c1 :: c2 :: c3 :: c4 :: c5 :: none :: q :: t) = c0 :: c1 :: c2 :: c3 :: c4 :: c5 :: none :: some u :: t := rfl
theorem st2_7_n {c0 c1 c2 c3 c4 c5 : Option Value} {q q2 : Option Value} {u : Value} {t : LS0} : stD 7 u (c0 :: c1 :: c2 :: c3 :: c4 :: c5 :: none :: q :: q2 :: t) = c0 :: c1 :: c2 :: c3 :: c4 :: c5 :: none :: some u :: none :: t := rfl
theorem st1_7_i {c0 c1 c2 c3 c4 c5 : Option Value} {y : Int32} {q : Option Value} {u : Value} {t : LS0} : stS 7 u (c0 :: c1 :: c2 :: c3 :: c4 :: c5 :: some (.int y) :: q :: t) = c0 :: c1 :: c2 :: c3 :: c4 :: c5 :: some (.int y) :: some u :: t := rfl
theorem st2_7_i {c0 c1 c2 c3 c4 c5 : Option Value} {y : Int32} {q q2 : Option Value} {u : Value} {t : LS0} : stD 7 u (c0 :: c1 :: c2 :: c3 :: c4 :: c5 :: some (.int y) :: q :: q2 :: t) = c0 :: c1 :: c2 :: c3 :: c4 :: c5 :: some (.int y) :: some u :: none :: t := rfl
theorem st1_7_r {c0 c1 c2 c3 c4 c5 : Option Value} {z : Nat} {q : Option Value} {u : Value} {t : LS0} : stS 7 u (c0 :: c1 :: c2 :: c3 :: c4 :: c5 :: some (.ref z) :: q :: t) = c0 :: c1 :: c2 :: c3 :: c4 :: c5 :: some (.ref z) :: some u :: t := rfl
theorem st2_7_r {c0 c1 c2 c3 c4 c5 : Option Value} {z : Nat} {q q2 : Option Value} {u : Value} {t : LS0} : stD 7 u (c0 :: c1 :: c2 :: c3 :: c4 :: c5 :: some (.ref z) :: q :: q2 :: t) = c0 :: c1 :: c2 :: c3 :: c4 :: c5 :: some (.ref z) :: some u :: none :: t := rfl
theorem g_iload_8 {X : SX} {k pc l a : Nat} {v : Int32} {tb : List (Int32 × Nat)} (h : fetch k pc = some (.iload 8, l, a, v, tb)) {c0 c1 c2 c3 c4 c5 c6 c7 : Option Value} {x : Int32} {t : LS0} {st : List Value} {σ : SH} : exD X k pc (c0 :: c1 :: c2 :: c3 :: c4 :: c5 :: c6 :: c7 :: some (.int x) :: t) st σ = exD X k (pc + 2) (c0 :: c1 :: c2 :: c3 :: c4 :: c5 :: c6 :: c7 :: some (.int x) :: t) (.int x :: st) σ := (exD_at h _ _ _).trans rfl
theorem g_lload_8 {X : SX} {k pc l a : Nat} {v : Int32} {tb : List (Int32 × Nat)} (h : fetch k pc = some (.lload 8, l, a, v, tb)) {c0 c1 c2 c3 c4 c5 c6 c7 : Option Value} {x : Int64} {t : LS0} {st : List Value} {σ : SH} : exD X k pc (c0 :: c1 :: c2 :: c3 :: c4 :: c5 :: c6 :: c7 :: some (.long x) :: t) st σ = exD X k (pc + 2) (c0 :: c1 :: c2 :: c3 :: c4 :: c5 :: c6 :: c7 :: some (.long x) :: t) (.long x :: st) σ := (exD_at h _ _ _).trans rfl
theorem g_aload_8 {X : SX} {k pc l a : Nat} {v : Int32} {tb : List (Int32 × Nat)} (h : fetch k pc = some (.aload 8, l, a, v, tb)) {c0 c1 c2 c3 c4 c5 c6 c7 : Option Value} {x : Nat} {t : LS0} {st : List Value} {σ : SH} : exD X k pc (c0 :: c1 :: c2 :: c3 :: c4 :: c5 :: c6 :: c7 :: some (.ref x) :: t) st σ = exD X k (pc + 2) (c0 :: c1 :: c2 :: c3 :: c4 :: c5 :: c6 :: c7 :: some (.ref x) :: t) (.ref x :: st) σ := (exD_at h _ _ _).trans rfl
theorem g_istore_8 {X : SX} {k pc l a : Nat} {v : Int32} {tb : List (Int32 × Nat)} (h : fetch k pc = some (.istore 8, l, a, v, tb)) {c0 c1 c2 c3 c4 c5 c6 c7 c8 : Option Value} {x : Int32} {t : LS0} {st : List Value} {σ : SH} : exD X k pc (c0 :: c1 :: c2 :: c3 :: c4 :: c5 :: c6 :: c7 :: c8 :: t) (.int x :: st) σ = exD X k (pc + 2) (stS 8 (.int x) (c0 :: c1 :: c2 :: c3 :: c4 :: c5 :: c6 :: c7 :: c8 :: t)) st σ := (exD_at h _ _ _).trans rfl
theorem g_lstore_8 {X : SX} {k pc l a : Nat} {v : Int32} {tb : List (Int32 × Nat)} (h : fetch k pc = some (.lstore 8, l, a, v, tb)) {c0 c1 c2 c3 c4 c5 c6 c7 c8 c9 : Option Value} {x : Int64} {t : LS0} {st : List Value} {σ : SH} : exD X k pc (c0 :: c1 :: c2 :: c3 :: c4 :: c5 :: c6 :: c7 :: c8 :: c9 :: t) (.long x :: st) σ = exD X k (pc + 2) (stD 8 (.long x) (c0 :: c1 :: c2 :: c3 :: c4 :: c5 :: c6 :: c7 :: c8 :: c9 :: t)) st σ := (exD_at h _ _ _).trans rfl
theorem g_iinc_8 {X : SX} {k pc l a : Nat} {v : Int32} {tb : List (Int32 × Nat)} {n : Int} (h : fetch k pc = some (.iinc 8 n, l, a, v, tb)) {c0 c1 c2 c3 c4 c5 c6 c7 : Option Value} {x : Int32} {t : LS0} {st : List Value} {σ : SH} : exD X k pc (c0 :: c1 :: c2 :: c3 :: c4 :: c5 :: c6 :: c7 :: some (.int x) :: t) st σ = exD X k (pc + 3) (stS 8 (.int (x + v)) (c0 :: c1 :: c2 :: c3 :: c4 :: c5 :: c6 :: c7 :: some (.int x) :: t)) st σ := (exD_at h _ _ _).trans rfl
theorem st1_8_n {c0 c1 c2 c3 c4 c5 c6 : Option Value} {q : Option Value} {u : Value} {t : LS0} : stS 8 u (c0 :: c1 :: c2 :: c3 :: c4 :: c5 :: c6 :: none :: q :: t) = c0 :: c1 :: c2 :: c3 :: c4 :: c5 :: c6 :: none :: some u :: t := rfl
theorem st2_8_n {c0 c1 c2 c3 c4 c5 c6 : Option Value} {q q2 : Option Value} {u : Value} {t : LS0} : stD 8 u (c0 :: c1 :: c2 :: c3 :: c4 :: c5 :: c6 :: none :: q :: q2 :: t) = c0 :: c1 :: c2 :: c3 :: c4 :: c5 :: c6 :: none :: some u :: none :: t := rfl
theorem st1_8_i {c0 c1 c2 c3 c4 c5 c6 : Option Value} {y : Int32} {q : Option Value} {u : Value} {t : LS0} : stS 8 u (c0 :: c1 :: c2 :: c3 :: c4 :: c5 :: c6 :: some (.int y) :: q :: t) = c0 :: c1 :: c2 :: c3 :: c4 :: c5 :: c6 :: some (.int y) :: some u :: t := rfl
theorem st2_8_i {c0 c1 c2 c3 c4 c5 c6 : Option Value} {y : Int32} {q q2 : Option Value} {u : Value} {t : LS0} : stD 8 u (c0 :: c1 :: c2 :: c3 :: c4 :: c5 :: c6 :: some (.int y) :: q :: q2 :: t) = c0 :: c1 :: c2 :: c3 :: c4 :: c5 :: c6 :: some (.int y) :: some u :: none :: t := rfl
theorem st1_8_r {c0 c1 c2 c3 c4 c5 c6 : Option Value} {z : Nat} {q : Option Value} {u : Value} {t : LS0} : stS 8 u (c0 :: c1 :: c2 :: c3 :: c4 :: c5 :: c6 :: some (.ref z) :: q :: t) = c0 :: c1 :: c2 :: c3 :: c4 :: c5 :: c6 :: some (.ref z) :: some u :: t := rfl
theorem st2_8_r {c0 c1 c2 c3 c4 c5 c6 : Option Value} {z : Nat} {q q2 : Option Value} {u : Value} {t : LS0} : stD 8 u (c0 :: c1 :: c2 :: c3 :: c4 :: c5 :: c6 :: some (.ref z) :: q :: q2 :: t) = c0 :: c1 :: c2 :: c3 :: c4 :: c5 :: c6 :: some (.ref z) :: some u :: none :: t := rfl
theorem g_iload_9 {X : SX} {k pc l a : Nat} {v : Int32} {tb : List (Int32 × Nat)} (h : fetch k pc = some (.iload 9, l, a, v, tb)) {c0 c1 c2 c3 c4 c5 c6 c7 c8 : Option Value} {x : Int32} {t : LS0} {st : List Value} {σ : SH} : exD X k pc (c0 :: c1 :: c2 :: c3 :: c4 :: c5 :: c6 :: c7 :: c8 :: some (.int x) :: t) st σ = exD X k (pc + 2) (c0 :: c1 :: c2 :: c3 :: c4 :: c5 :: c6 :: c7 :: c8 :: some (.int x) :: t) (.int x :: st) σ := (exD_at h _ _ _).trans rfl
theorem g_lload_9 {X : SX} {k pc l a : Nat} {v : Int32} {tb : List (Int32 × Nat)} (h : fetch k pc = some (.lload 9, l, a, v, tb)) {c0 c1 c2 c3 c4 c5 c6 c7 c8 : Option Value} {x : Int64} {t : LS0} {st : List Value} {σ : SH} : exD X k pc (c0 :: c1 :: c2 :: c3 :: c4 :: c5 :: c6 :: c7 :: c8 :: some (.long x) :: t) st σ = exD X k (pc + 2) (c0 :: c1 :: c2 :: c3 :: c4 :: c5 :: c6 :: c7 :: c8 :: some (.long x) :: t) (.long x :: st) σ := (exD_at h _ _ _).trans rfl
theorem g_aload_9 {X : SX} {k pc l a : Nat} {v : Int32} {tb : List (Int32 × Nat)} (h : fetch k pc = some (.aload 9, l, a, v, tb)) {c0 c1 c2 c3 c4 c5 c6 c7 c8 : Option Value} {x : Nat} {t : LS0} {st : List Value} {σ : SH} : exD X k pc (c0 :: c1 :: c2 :: c3 :: c4 :: c5 :: c6 :: c7 :: c8 :: some (.ref x) :: t) st σ = exD X k (pc + 2) (c0 :: c1 :: c2 :: c3 :: c4 :: c5 :: c6 :: c7 :: c8 :: some (.ref x) :: t) (.ref x :: st) σ := (exD_at h _ _ _).trans rfl
theorem g_istore_9 {X : SX} {k pc l a : Nat} {v : Int32} {tb : List (Int32 × Nat)} (h : fetch k pc = some (.istore 9, l, a, v, tb)) {c0 c1 c2 c3 c4 c5 c6 c7 c8 c9 : Option Value} {x : Int32} {t : LS0} {st : List Value} {σ : SH} : exD X k pc (c0 :: c1 :: c2 :: c3 :: c4 :: c5 :: c6 :: c7 :: c8 :: c9 :: t) (.int x :: st) σ = exD X k (pc + 2) (stS 9 (.int x) (c0 :: c1 :: c2 :: c3 :: c4 :: c5 :: c6 :: c7 :: c8 :: c9 :: t)) st σ := (exD_at h _ _ _).trans rfl
theorem g_lstore_9 {X : SX} {k pc l a : Nat} {v : Int32} {tb : List (Int32 × Nat)} (h : fetch k pc = some (.lstore 9, l, a, v, tb)) {c0 c1 c2 c3 c4 c5 c6 c7 c8 c9 c10 : Option Value} {x : Int64} {t : LS0} {st : List Value} {σ : SH} : exD X k pc (c0 :: c1 :: c2 :: c3 :: c4 :: c5 :: c6 :: c7 :: c8 :: c9 :: c10 :: t) (.long x :: st) σ = exD X k (pc + 2) (stD 9 (.long x) (c0 :: c1 :: c2 :: c3 :: c4 :: c5 :: c6 :: c7 :: c8 :: c9 :: c10 :: t)) st σ := (exD_at h _ _ _).trans rfl
theorem g_iinc_9 {X : SX} {k pc l a : Nat} {v : Int32} {tb : List (Int32 × Nat)} {n : Int} (h : fetch k pc = some (.iinc 9 n, l, a, v, tb)) {c0 c1 c2 c3 c4 c5 c6 c7 c8 : Option Value} {x : Int32} {t : LS0} {st : List Value} {σ : SH} : exD X k pc (c0 :: c1 :: c2 :: c3 :: c4 :: c5 :: c6 :: c7 :: c8 :: some (.int x) :: t) st σ = exD X k (pc + 3) (stS 9 (.int (x + v)) (c0 :: c1 :: c2 :: c3 :: c4 :: c5 :: c6 :: c7 :: c8 :: some (.int x) :: t)) st σ := (exD_at h _ _ _).trans rfl
theorem st1_9_n {c0 c1 c2 c3 c4 c5 c6 c7 : Option Value} {q : Option Value} {u : Value} {t : LS0} : stS 9 u (c0 :: c1 :: c2 :: c3 :: c4 :: c5 :: c6 :: c7 :: none :: q :: t) = c0 :: c1 :: c2 :: c3 :: c4 :: c5 :: c6 :: c7 :: none :: some u :: t := rfl
theorem st2_9_n {c0 c1 c2 c3 c4 c5 c6 c7 : Option Value} {q q2 : Option Value} {u : Value} {t : LS0} : stD 9 u (c0 :: c1 :: c2 :: c3 :: c4 :: c5 :: c6 :: c7 :: none :: q :: q2 :: t) = c0 :: c1 :: c2 :: c3 :: c4 :: c5 :: c6 :: c7 :: none :: some u :: none :: t := rfl
theorem st1_9_i {c0 c1 c2 c3 c4 c5 c6 c7 : Option Value} {y : Int32} {q : Option Value} {u : Value} {t : LS0} : stS 9 u (c0 :: c1 :: c2 :: c3 :: c4 :: c5 :: c6 :: c7 :: some (.int y) :: q :: t) = c0 :: c1 :: c2 :: c3 :: c4 :: c5 :: c6 :: c7 :: some (.int y) :: some u :: t := rfl
theorem st2_9_i {c0 c1 c2 c3 c4 c5 c6 c7 : Option Value} {y : Int32} {q q2 : Option Value} {u : Value} {t : LS0} : stD 9 u (c0 :: c1 :: c2 :: c3 :: c4 :: c5 :: c6 :: c7 :: some (.int y) :: q :: q2 :: t) = c0 :: c1 :: c2 :: c3 :: c4 :: c5 :: c6 :: c7 :: some (.int y) :: some u :: none :: t := rfl
theorem st1_9_r {c0 c1 c2 c3 c4 c5 c6 c7 : Option Value} {z : Nat} {q : Option Value} {u : Value} {t : LS0} : stS 9 u (c0 :: c1 :: c2 :: c3 :: c4 :: c5 :: c6 :: c7 :: some (.ref z) :: q :: t) = c0 :: c1 :: c2 :: c3 :: c4 :: c5 :: c6 :: c7 :: some (.ref z) :: some u :: t := rfl
theorem st2_9_r {c0 c1 c2 c3 c4 c5 c6 c7 : Option Value} {z : Nat} {q q2 : Option Value} {u : Value} {t : LS0} : stD 9 u (c0 :: c1 :: c2 :: c3 :: c4 :: c5 :: c6 :: c7 :: some (.ref z) :: q :: q2 :: t) = c0 :: c1 :: c2 :: c3 :: c4 :: c5 :: c6 :: c7 :: some (.ref z) :: some u :: none :: t := rfl
theorem g_iload_10 {X : SX} {k pc l a : Nat} {v : Int32} {tb : List (Int32 × Nat)} (h : fetch k pc = some (.iload 10, l, a, v, tb)) {c0 c1 c2 c3 c4 c5 c6 c7 c8 c9 : Option Value} {x : Int32} {t : LS0} {st : List Value} {σ : SH} : exD X k pc (c0 :: c1 :: c2 :: c3 :: c4 :: c5 :: c6 :: c7 :: c8 :: c9 :: some (.int x) :: t) st σ = exD X k (pc + 2) (c0 :: c1 :: c2 :: c3 :: c4 :: c5 :: c6 :: c7 :: c8 :: c9 :: some (.int x) :: t) (.int x :: st) σ := (exD_at h _ _ _).trans rfl
theorem g_lload_10 {X : SX} {k pc l a : Nat} {v : Int32} {tb : List (Int32 × Nat)} (h : fetch k pc = some (.lload 10, l, a, v, tb)) {c0 c1 c2 c3 c4 c5 c6 c7 c8 c9 : Option Value} {x : Int64} {t : LS0} {st : List Value} {σ : SH} : exD X k pc (c0 :: c1 :: c2 :: c3 :: c4 :: c5 :: c6 :: c7 :: c8 :: c9 :: some (.long x) :: t) st σ = exD X k (pc + 2) (c0 :: c1 :: c2 :: c3 :: c4 :: c5 :: c6 :: c7 :: c8 :: c9 :: some (.long x) :: t) (.long x :: st) σ := (exD_at h _ _ _).trans rfl
theorem g_aload_10 {X : SX} {k pc l a : Nat} {v : Int32} {tb : List (Int32 × Nat)} (h : fetch k pc = some (.aload 10, l, a, v, tb)) {c0 c1 c2 c3 c4 c5 c6 c7 c8 c9 : Option Value} {x : Nat} {t : LS0} {st : List Value} {σ : SH} : exD X k pc (c0 :: c1 :: c2 :: c3 :: c4 :: c5 :: c6 :: c7 :: c8 :: c9 :: some (.ref x) :: t) st σ = exD X k (pc + 2) (c0 :: c1 :: c2 :: c3 :: c4 :: c5 :: c6 :: c7 :: c8 :: c9 :: some (.ref x) :: t) (.ref x :: st) σ := (exD_at h _ _ _).trans rfl
theorem g_istore_10 {X : SX} {k pc l a : Nat} {v : Int32} {tb : List (Int32 × Nat)} (h : fetch k pc = some (.istore 10, l, a, v, tb)) {c0 c1 c2 c3 c4 c5 c6 c7 c8 c9 c10 : Option Value} {x : Int32} {t : LS0} {st : List Value} {σ : SH} : exD X k pc (c0 :: c1 :: c2 :: c3 :: c4 :: c5 :: c6 :: c7 :: c8 :: c9 :: c10 :: t) (.int x :: st) σ = exD X k (pc + 2) (stS 10 (.int x) (c0 :: c1 :: c2 :: c3 :: c4 :: c5 :: c6 :: c7 :: c8 :: c9 :: c10 :: t)) st σ := (exD_at h _ _ _).trans rfl
theorem g_lstore_10 {X : SX} {k pc l a : Nat} {v : Int32} {tb : List (Int32 × Nat)} (h : fetch k pc = some (.lstore 10, l, a, v, tb)) {c0 c1 c2 c3 c4 c5 c6 c7 c8 c9 c10 c11 : Option Value} {x : Int64} {t : LS0} {st : List Value} {σ : SH} : exD X k pc (c0 :: c1 :: c2 :: c3 :: c4 :: c5 :: c6 :: c7 :: c8 :: c9 :: c10 :: c11 :: t) (.long x :: st) σ = exD X k (pc + 2) (stD 10 (.long x) (c0 :: c1 :: c2 :: c3 :: c4 :: c5 :: c6 :: c7 :: c8 :: c9 :: c10 :: c11 :: t)) st σ := (exD_at h _ _ _).trans rfl
theorem g_iinc_10 {X : SX} {k pc l a : Nat} {v : Int32} {tb : List (Int32 × Nat)} {n : Int} (h : fetch k pc = some (.iinc 10 n, l, a, v, tb)) {c0 c1 c2 c3 c4 c5 c6 c7 c8 c9 : Option Value} {x : Int32} {t : LS0} {st : List Value} {σ : SH} : exD X k pc (c0 :: c1 :: c2 :: c3 :: c4 :: c5 :: c6 :: c7 :: c8 :: c9 :: some (.int x) :: t) st σ = exD X k (pc + 3) (stS 10 (.int (x + v)) (c0 :: c1 :: c2 :: c3 :: c4 :: c5 :: c6 :: c7 :: c8 :: c9 :: some (.int x) :: t)) st σ := (exD_at h _ _ _).trans rfl
theorem st1_10_n {c0 c1 c2 c3 c4 c5 c6 c7 c8 : Option Value} {q : Option Value} {u : Value} {t : LS0} : stS 10 u (c0 :: c1 :: c2 :: c3 :: c4 :: c5 :: c6 :: c7 :: c8 :: none :: q :: t) = c0 :: c1 :: c2 :: c3 :: c4 :: c5 :: c6 :: c7 :: c8 :: none :: some u :: t := rfl
theorem st2_10_n {c0 c1 c2 c3 c4 c5 c6 c7 c8 : Option Value} {q q2 : Option Value} {u : Value} {t : LS0} : stD 10 u (c0 :: c1 :: c2 :: c3 :: c4 :: c5 :: c6 :: c7 :: c8 :: none :: q :: q2 :: t) = c0 :: c1 :: c2 :: c3 :: c4 :: c5 :: c6 :: c7 :: c8 :: none :: some u :: none :: t := rfl
theorem st1_10_i {c0 c1 c2 c3 c4 c5 c6 c7 c8 : Option Value} {y : Int32} {q : Option Value} {u : Value} {t : LS0} : stS 10 u (c0 :: c1 :: c2 :: c3 :: c4 :: c5 :: c6 :: c7 :: c8 :: some (.int y) :: q :: t) = c0 :: c1 :: c2 :: c3 :: c4 :: c5 :: c6 :: c7 :: c8 :: some (.int y) :: some u :: t := rfl
theorem st2_10_i {c0 c1 c2 c3 c4 c5 c6 c7 c8 : Option Value} {y : Int32} {q q2 : Option Value} {u : Value} {t : LS0} : stD 10 u (c0 :: c1 :: c2 :: c3 :: c4 :: c5 :: c6 :: c7 :: c8 :: some (.int y) :: q :: q2 :: t) = c0 :: c1 :: c2 :: c3 :: c4 :: c5 :: c6 :: c7 :: c8 :: some (.int y) :: some u :: none :: t := rfl
theorem st1_10_r {c0 c1 c2 c3 c4 c5 c6 c7 c8 : Option Value} {z : Nat} {q : Option Value} {u : Value} {t : LS0} : stS 10 u (c0 :: c1 :: c2 :: c3 :: c4 :: c5 :: c6 :: c7 :: c8 :: some (.ref z) :: q :: t) = c0 :: c1 :: c2 :: c3 :: c4 :: c5 :: c6 :: c7 :: c8 :: some (.ref z) :: some u :: t := rfl
theorem st2_10_r {c0 c1 c2 c3 c4 c5 c6 c7 c8 : Option Value} {z : Nat} {q q2 : Option Value} {u : Value} {t : LS0} : stD 10 u (c0 :: c1 :: c2 :: c3 :: c4 :: c5 :: c6 :: c7 :: c8 :: some (.ref z) :: q :: q2 :: t) = c0 :: c1 :: c2 :: c3 :: c4 :: c5 :: c6 :: c7 :: c8 :: some (.ref z) :: some u :: none :: t := rfl
theorem g_iload_11 {X : SX} {k pc l a : Nat} {v : Int32} {tb : List (Int32 × Nat)} (h : fetch k pc = some (.iload 11, l, a, v, tb)) {c0 c1 c2 c3 c4 c5 c6 c7 c8 c9 c10 : Option Value} {x : Int32} {t : LS0} {st : List Value} {σ : SH} : exD X k pc (c0 :: c1 :: c2 :: c3 :: c4 :: c5 :: c6 :: c7 :: c8 :: c9 :: c10 :: some (.int x) :: t) st σ = exD X k (pc + 2) (c0 :: c1 :: c2 :: c3 :: c4 :: c5 :: c6 :: c7 :: c8 :: c9 :: c10 :: some (.int x) :: t) (.int x :: st) σ := (exD_at h _ _ _).trans rfl
theorem g_lload_11 {X : SX} {k pc l a : Nat} {v : Int32} {tb : List (Int32 × Nat)} (h : fetch k pc = some (.lload 11, l, a, v, tb)) {c0 c1 c2 c3 c4 c5 c6 c7 c8 c9 c10 : Option Value} {x : Int64} {t : LS0} {st : List Value} {σ : SH} : exD X k pc (c0 :: c1 :: c2 :: c3 :: c4 :: c5 :: c6 :: c7 :: c8 :: c9 :: c10 :: some (.long x) :: t) st σ = exD X k (pc + 2) (c0 :: c1 :: c2 :: c3 :: c4 :: c5 :: c6 :: c7 :: c8 :: c9 :: c10 :: some (.long x) :: t) (.long x :: st) σ := (exD_at h _ _ _).trans rfl
theorem g_aload_11 {X : SX} {k pc l a : Nat} {v : Int32} {tb : List (Int32 × Nat)} (h : fetch k pc = some (.aload 11, l, a, v, tb)) {c0 c1 c2 c3 c4 c5 c6 c7 c8 c9 c10 : Option Value} {x : Nat} {t : LS0} {st : List Value} {σ : SH} : exD X k pc (c0 :: c1 :: c2 :: c3 :: c4 :: c5 :: c6 :: c7 :: c8 :: c9 :: c10 :: some (.ref x) :: t) st σ = exD X k (pc + 2) (c0 :: c1 :: c2 :: c3 :: c4 :: c5 :: c6 :: c7 :: c8 :: c9 :: c10 :: some (.ref x) :: t) (.ref x :: st) σ := (exD_at h _ _ _).trans rfl
theorem g_istore_11 {X : SX} {k pc l a : Nat} {v : Int32} {tb : List (Int32 × Nat)} (h : fetch k pc = some (.istore 11, l, a, v, tb)) {c0 c1 c2 c3 c4 c5 c6 c7 c8 c9 c10 c11 : Option Value} {x : Int32} {t : LS0} {st : List Value} {σ : SH} : exD X k pc (c0 :: c1 :: c2 :: c3 :: c4 :: c5 :: c6 :: c7 :: c8 :: c9 :: c10 :: c11 :: t) (.int x :: st) σ = exD X k (pc + 2) (stS 11 (.int x) (c0 :: c1 :: c2 :: c3 :: c4 :: c5 :: c6 :: c7 :: c8 :: c9 :: c10 :: c11 :: t)) st σ := (exD_at h _ _ _).trans rfl
theorem g_lstore_11 {X : SX} {k pc l a : Nat} {v : Int32} {tb : List (Int32 × Nat)} (h : fetch k pc = some (.lstore 11, l, a, v, tb)) {c0 c1 c2 c3 c4 c5 c6 c7 c8 c9 c10 c11 c12 : Option Value} {x : Int64} {t : LS0} {st : List Value} {σ : SH} : exD X k pc (c0 :: c1 :: c2 :: c3 :: c4 :: c5 :: c6 :: c7 :: c8 :: c9 :: c10 :: c11 :: c12 :: t) (.long x :: st) σ = exD X k (pc + 2) (stD 11 (.long x) (c0 :: c1 :: c2 :: c3 :: c4 :: c5 :: c6 :: c7 :: c8 :: c9 :: c10 :: c11 :: c12 :: t)) st σ := (exD_at h _ _ _).trans rfl
theorem g_iinc_11 {X : SX} {k pc l a : Nat} {v : Int32} {tb : List (Int32 × Nat)} {n : Int} (h : fetch k pc = some (.iinc 11 n, l, a, v, tb)) {c0 c1 c2 c3 c4 c5 c6 c7 c8 c9 c10 : Option Value} {x : Int32} {t : LS0} {st : List Value} {σ : SH} : exD X k pc (c0 :: c1 :: c2 :: c3 :: c4 :: c5 :: c6 :: c7 :: c8 :: c9 :: c10 :: some (.int x) :: t) st σ = exD X k (pc + 3) (stS 11 (.int (x + v)) (c0 :: c1 :: c2 :: c3 :: c4 :: c5 :: c6 :: c7 :: c8 :: c9 :: c10 :: some (.int x) :: t)) st σ := (exD_at h _ _ _).trans rfl
theorem st1_11_n {c0 c1 c2 c3 c4 c5 c6 c7 c8 c9 : Option Value} {q : Option Value} {u : Value} {t : LS0} : stS 11 u (c0 :: c1 :: c2 :: c3 :: c4 :: c5 :: c6 :: c7 :: c8 :: c9 :: none :: q :: t) = c0 :: c1 :: c2 :: c3 :: c4 :: c5 :: c6 :: c7 :: c8 :: c9 :: none :: some u :: t := rfl
theorem st2_11_n {c0 c1 c2 c3 c4 c5 c6 c7 c8 c9 : Option Value} {q q2 : Option Value} {u : Value} {t : LS0} : stD 11 u (c0 :: c1 :: c2 :: c3 :: c4 :: c5 :: c6 :: c7 :: c8 :: c9 :: none :: q :: q2 :: t) = c0 :: c1 :: c2 :: c3 :: c4 :: c5 :: c6 :: c7 :: c8 :: c9 :: none :: some u :: none :: t := rfl
theorem st1_11_i {c0 c1 c2 c3 c4 c5 c6 c7 c8 c9 : Option Value} {y : Int32} {q : Option Value} {u : Value} {t : LS0} : stS 11 u (c0 :: c1 :: c2 :: c3 :: c4 :: c5 :: c6 :: c7 :: c8 :: c9 :: some (.int y) :: q :: t) = c0 :: c1 :: c2 :: c3 :: c4 :: c5 :: c6 :: c7 :: c8 :: c9 :: some (.int y) :: some u :: t := rfl
theorem st2_11_i {c0 c1 c2 c3 c4 c5 c6 c7 c8 c9 : Option Value} {y : Int32} {q q2 : Option Value} {u : Value} {t : LS0} : stD 11 u (c0 :: c1 :: c2 :: c3 :: c4 :: c5 :: c6 :: c7 :: c8 :: c9 :: some (.int y) :: q :: q2 :: t) = c0 :: c1 :: c2 :: c3 :: c4 :: c5 :: c6 :: c7 :: c8 :: c9 :: some (.int y) :: some u :: none :: t := rfl
theorem st1_11_r {c0 c1 c2 c3 c4 c5 c6 c7 c8 c9 : Option Value} {z : Nat} {q : Option Value} {u : Value} {t : LS0} : stS 11 u (c0 :: c1 :: c2 :: c3 :: c4 :: c5 :: c6 :: c7 :: c8 :: c9 :: some (.ref z) :: q :: t) = c0 :: c1 :: c2 :: c3 :: c4 :: c5 :: c6 :: c7 :: c8 :: c9 :: some (.ref z) :: some u :: t := rfl
theorem st2_11_r {c0 c1 c2 c3 c4 c5 c6 c7 c8 c9 : Option Value} {z : Nat} {q q2 : Option Value} {u : Value} {t : LS0} : stD 11 u (c0 :: c1 :: c2 :: c3 :: c4 :: c5 :: c6 :: c7 :: c8 :: c9 :: some (.ref z) :: q :: q2 :: t) = c0 :: c1 :: c2 :: c3 :: c4 :: c5 :: c6 :: c7 :: c8 :: c9 :: some (.ref z) :: some u :: none :: t := rfl
theorem g_iconst {X : SX} {k pc l a : Nat} {v : Int32} {tb : List (Int32 × Nat)} {n : Int} (h : fetch k pc = some (.iconst n, l, a, v, tb)) {ls : LS0} {st : List Value} {σ : SH} : exD X k pc ls st σ = exD X k (pc + 1) ls (.int v :: st) σ := (exD_at h _ _ _).trans rfl
theorem g_bipush {X : SX} {k pc l a : Nat} {v : Int32} {tb : List (Int32 × Nat)} {n : Int} (h : fetch k pc = some (.bipush n, l, a, v, tb)) {ls : LS0} {st : List Value} {σ : SH} : exD X k pc ls st σ = exD X k (pc + 2) ls (.int v :: st) σ := (exD_at h _ _ _).trans rfl
theorem g_sipush {X : SX} {k pc l a : Nat} {v : Int32} {tb : List (Int32 × Nat)} {n : Int} (h : fetch k pc = some (.sipush n, l, a, v, tb)) {ls : LS0} {st : List Value} {σ : SH} : exD X k pc ls st σ = exD X k (pc + 3) ls (.int v :: st) σ := (exD_at h _ _ _).trans rfl
theorem g_ldc {X : SX} {k pc l a : Nat} {v : Int32} {tb : List (Int32 × Nat)} {n : Nat} (h : fetch k pc = some (.ldc n, l, a, v, tb)) {ls : LS0} {st : List Value} {σ : SH} : exD X k pc ls st σ = exD X k (pc + 2) ls (.int v :: st) σ := (exD_at h _ _ _).trans rfl
theorem g_ldc_w {X : SX} {k pc l a : Nat} {v : Int32} {tb : List (Int32 × Nat)} {n : Nat} (h : fetch k pc = some (.ldc_w n, l, a, v, tb)) {ls : LS0} {st : List Value} {σ : SH} : exD X k pc ls st σ = exD X k (pc + 3) ls (.int v :: st) σ := (exD_at h _ _ _).trans rfl
theorem g_lconst {X : SX} {k pc l a : Nat} {v : Int32} {tb : List (Int32 × Nat)} {n : Fin 2} (h : fetch k pc = some (.lconst n, l, a, v, tb)) {ls : LS0} {st : List Value} {σ : SH} : exD X k pc ls st σ = exD X k (pc + 1) ls (.long (Int64.ofNat (n : Nat)) :: st) σ := (exD_at h _ _ _).trans rfl
theorem g_ldc2_w {X : SX} {k pc l a : Nat} {v : Int32} {tb : List (Int32 × Nat)} {n : Nat} {e : Nat × Nat × Int64} (h : fetch k pc = some (.ldc2_w n, l, a, v, tb)) (hk : KLL[a]? = some e) {ls : LS0} {st : List Value} {σ : SH} : exD X k pc ls st σ = exD X k (pc + 3) ls (.long e.2.2 :: st) σ := by
  rw [exD_at h]
  simp only [stepI, hk]
  rfl
theorem g_iadd {X : SX} {k pc l a : Nat} {v : Int32} {tb : List (Int32 × Nat)} (h : fetch k pc = some (.iadd, l, a, v, tb)) {ls : LS0} {st : List Value} {σ : SH} {x y : Int32} : exD X k pc ls (.int y :: .int x :: st) σ = exD X k (pc + 1) ls (.int (x + y) :: st) σ := (exD_at h _ _ _).trans rfl
theorem g_isub {X : SX} {k pc l a : Nat} {v : Int32} {tb : List (Int32 × Nat)} (h : fetch k pc = some (.isub, l, a, v, tb)) {ls : LS0} {st : List Value} {σ : SH} {x y : Int32} : exD X k pc ls (.int y :: .int x :: st) σ = exD X k (pc + 1) ls (.int (x - y) :: st) σ := (exD_at h _ _ _).trans rfl
theorem g_imul {X : SX} {k pc l a : Nat} {v : Int32} {tb : List (Int32 × Nat)} (h : fetch k pc = some (.imul, l, a, v, tb)) {ls : LS0} {st : List Value} {σ : SH} {x y : Int32} : exD X k pc ls (.int y :: .int x :: st) σ = exD X k (pc + 1) ls (.int (x * y) :: st) σ := (exD_at h _ _ _).trans rfl
theorem g_iand {X : SX} {k pc l a : Nat} {v : Int32} {tb : List (Int32 × Nat)} (h : fetch k pc = some (.iand, l, a, v, tb)) {ls : LS0} {st : List Value} {σ : SH} {x y : Int32} : exD X k pc ls (.int y :: .int x :: st) σ = exD X k (pc + 1) ls (.int (x &&& y) :: st) σ := (exD_at h _ _ _).trans rfl
theorem g_ior {X : SX} {k pc l a : Nat} {v : Int32} {tb : List (Int32 × Nat)} (h : fetch k pc = some (.ior, l, a, v, tb)) {ls : LS0} {st : List Value} {σ : SH} {x y : Int32} : exD X k pc ls (.int y :: .int x :: st) σ = exD X k (pc + 1) ls (.int (x ||| y) :: st) σ := (exD_at h _ _ _).trans rfl
theorem g_ixor {X : SX} {k pc l a : Nat} {v : Int32} {tb : List (Int32 × Nat)} (h : fetch k pc = some (.ixor, l, a, v, tb)) {ls : LS0} {st : List Value} {σ : SH} {x y : Int32} : exD X k pc ls (.int y :: .int x :: st) σ = exD X k (pc + 1) ls (.int (x ^^^ y) :: st) σ := (exD_at h _ _ _).trans rfl
theorem g_ishl {X : SX} {k pc l a : Nat} {v : Int32} {tb : List (Int32 × Nat)} (h : fetch k pc = some (.ishl, l, a, v, tb)) {ls : LS0} {st : List Value} {σ : SH} {x y : Int32} : exD X k pc ls (.int y :: .int x :: st) σ = exD X k (pc + 1) ls (.int (x <<< (y &&& 31)) :: st) σ := (exD_at h _ _ _).trans rfl
theorem g_ishr {X : SX} {k pc l a : Nat} {v : Int32} {tb : List (Int32 × Nat)} (h : fetch k pc = some (.ishr, l, a, v, tb)) {ls : LS0} {st : List Value} {σ : SH} {x y : Int32} : exD X k pc ls (.int y :: .int x :: st) σ = exD X k (pc + 1) ls (.int (x >>> (y &&& 31)) :: st) σ := (exD_at h _ _ _).trans rfl
theorem g_ladd {X : SX} {k pc l a : Nat} {v : Int32} {tb : List (Int32 × Nat)} (h : fetch k pc = some (.ladd, l, a, v, tb)) {ls : LS0} {st : List Value} {σ : SH} {x y : Int64} : exD X k pc ls (.long y :: .long x :: st) σ = exD X k (pc + 1) ls (.long (x + y) :: st) σ := (exD_at h _ _ _).trans rfl
theorem g_lsub {X : SX} {k pc l a : Nat} {v : Int32} {tb : List (Int32 × Nat)} (h : fetch k pc = some (.lsub, l, a, v, tb)) {ls : LS0} {st : List Value} {σ : SH} {x y : Int64} : exD X k pc ls (.long y :: .long x :: st) σ = exD X k (pc + 1) ls (.long (x - y) :: st) σ := (exD_at h _ _ _).trans rfl
theorem g_lmul {X : SX} {k pc l a : Nat} {v : Int32} {tb : List (Int32 × Nat)} (h : fetch k pc = some (.lmul, l, a, v, tb)) {ls : LS0} {st : List Value} {σ : SH} {x y : Int64} : exD X k pc ls (.long y :: .long x :: st) σ = exD X k (pc + 1) ls (.long (x * y) :: st) σ := (exD_at h _ _ _).trans rfl
theorem g_idiv {X : SX} {k pc l a : Nat} {v : Int32} {tb : List (Int32 × Nat)} (h : fetch k pc = some (.idiv, l, a, v, tb)) {ls : LS0} {st : List Value} {σ : SH} {x y : Int32} : exD X k pc ls (.int y :: .int x :: st) σ = if y = 0 then none else exD X k (pc + 1) ls (.int (x / y) :: st) σ := by
  rw [exD_at h]
  show bS X k ls σ (if y = 0 then none else _) = _
  rw [bS_ite]
  rfl
theorem g_irem {X : SX} {k pc l a : Nat} {v : Int32} {tb : List (Int32 × Nat)} (h : fetch k pc = some (.irem, l, a, v, tb)) {ls : LS0} {st : List Value} {σ : SH} {x y : Int32} : exD X k pc ls (.int y :: .int x :: st) σ = if y = 0 then none else exD X k (pc + 1) ls (.int (x - x / y * y) :: st) σ := by
  rw [exD_at h]
  show bS X k ls σ (if y = 0 then none else _) = _
  rw [bS_ite]
  rfl
theorem g_ldiv {X : SX} {k pc l a : Nat} {v : Int32} {tb : List (Int32 × Nat)} (h : fetch k pc = some (.ldiv, l, a, v, tb)) {ls : LS0} {st : List Value} {σ : SH} {x y : Int64} : exD X k pc ls (.long y :: .long x :: st) σ = if y = 0 then none else exD X k (pc + 1) ls (.long (x / y) :: st) σ := by
  rw [exD_at h]
  show bS X k ls σ (if y = 0 then none else _) = _
  rw [bS_ite]
  rfl
theorem g_lrem {X : SX} {k pc l a : Nat} {v : Int32} {tb : List (Int32 × Nat)} (h : fetch k pc = some (.lrem, l, a, v, tb)) {ls : LS0} {st : List Value} {σ : SH} {x y : Int64} : exD X k pc ls (.long y :: .long x :: st) σ = if y = 0 then none else exD X k (pc + 1) ls (.long (x - x / y * y) :: st) σ := by
  rw [exD_at h]
  show bS X k ls σ (if y = 0 then none else _) = _
  rw [bS_ite]
  rfl
theorem g_ineg {X : SX} {k pc l a : Nat} {v : Int32} {tb : List (Int32 × Nat)} (h : fetch k pc = some (.ineg, l, a, v, tb)) {ls : LS0} {st : List Value} {σ : SH} {x : Int32} : exD X k pc ls (.int x :: st) σ = exD X k (pc + 1) ls (.int (-x) :: st) σ := (exD_at h _ _ _).trans rfl
theorem g_i2l {X : SX} {k pc l a : Nat} {v : Int32} {tb : List (Int32 × Nat)} (h : fetch k pc = some (.i2l, l, a, v, tb)) {ls : LS0} {st : List Value} {σ : SH} {x : Int32} : exD X k pc ls (.int x :: st) σ = exD X k (pc + 1) ls (.long x.toInt64 :: st) σ := (exD_at h _ _ _).trans rfl
theorem g_lcmp {X : SX} {k pc l a : Nat} {v : Int32} {tb : List (Int32 × Nat)} (h : fetch k pc = some (.lcmp, l, a, v, tb)) {ls : LS0} {st : List Value} {σ : SH} {x y : Int64} : exD X k pc ls (.long y :: .long x :: st) σ = exD X k (pc + 1) ls (.int (lg_cmp x y) :: st) σ := (exD_at h _ _ _).trans rfl
theorem g_dup_i {X : SX} {k pc l a : Nat} {v : Int32} {tb : List (Int32 × Nat)} (h : fetch k pc = some (.dup, l, a, v, tb)) {ls : LS0} {st : List Value} {σ : SH} {x : Int32} : exD X k pc ls (.int x :: st) σ = exD X k (pc + 1) ls (.int x :: .int x :: st) σ := (exD_at h _ _ _).trans rfl
theorem g_dup_r {X : SX} {k pc l a : Nat} {v : Int32} {tb : List (Int32 × Nat)} (h : fetch k pc = some (.dup, l, a, v, tb)) {ls : LS0} {st : List Value} {σ : SH} {x : Nat} : exD X k pc ls (.ref x :: st) σ = exD X k (pc + 1) ls (.ref x :: .ref x :: st) σ := (exD_at h _ _ _).trans rfl
theorem g_dup2 {X : SX} {k pc l a : Nat} {v : Int32} {tb : List (Int32 × Nat)} (h : fetch k pc = some (.dup2, l, a, v, tb)) {ls : LS0} {st : List Value} {σ : SH} {x : Int32} {y : Nat} : exD X k pc ls (.int x :: .ref y :: st) σ = exD X k (pc + 1) ls (.int x :: .ref y :: .int x :: .ref y :: st) σ := (exD_at h _ _ _).trans rfl
theorem g_pop {X : SX} {k pc l a : Nat} {v : Int32} {tb : List (Int32 × Nat)} (h : fetch k pc = some (.pop, l, a, v, tb)) {ls : LS0} {st : List Value} {σ : SH} {x : Int32} : exD X k pc ls (.int x :: st) σ = exD X k (pc + 1) ls st σ := (exD_at h _ _ _).trans rfl
theorem g_pop2 {X : SX} {k pc l a : Nat} {v : Int32} {tb : List (Int32 × Nat)} (h : fetch k pc = some (.pop2, l, a, v, tb)) {ls : LS0} {st : List Value} {σ : SH} {x : Int64} : exD X k pc ls (.long x :: st) σ = exD X k (pc + 1) ls st σ := (exD_at h _ _ _).trans rfl
theorem g_goto {X : SX} {k pc l a : Nat} {v : Int32} {tb : List (Int32 × Nat)} {n : Int} (h : fetch k pc = some (.goto n, l, a, v, tb)) {ls : LS0} {st : List Value} {σ : SH} : exD X k pc ls st σ = exD X k a ls st σ := (exD_at h _ _ _).trans rfl
theorem g_ifCond_eq {X : SX} {k pc l a : Nat} {v : Int32} {tb : List (Int32 × Nat)} {n : Int} (h : fetch k pc = some (.ifCond .eq n, l, a, v, tb)) {ls : LS0} {st : List Value} {σ : SH} {x : Int32} : exD X k pc ls (.int x :: st) σ = if x = 0 then exD X k a ls st σ else exD X k (pc + 3) ls st σ := by
  rw [exD_at h]
  show bS X k ls σ (if x = 0 then _ else _) = _
  rw [bS_ite]
  rfl
theorem g_ifCond_ne {X : SX} {k pc l a : Nat} {v : Int32} {tb : List (Int32 × Nat)} {n : Int} (h : fetch k pc = some (.ifCond .ne n, l, a, v, tb)) {ls : LS0} {st : List Value} {σ : SH} {x : Int32} : exD X k pc ls (.int x :: st) σ = if x = 0 then exD X k (pc + 3) ls st σ else exD X k a ls st σ := by
  rw [exD_at h]
  show bS X k ls σ (if x = 0 then _ else _) = _
  rw [bS_ite]
  rfl
theorem g_ifCond_lt {X : SX} {k pc l a : Nat} {v : Int32} {tb : List (Int32 × Nat)} {n : Int} (h : fetch k pc = some (.ifCond .lt n, l, a, v, tb)) {ls : LS0} {st : List Value} {σ : SH} {x : Int32} : exD X k pc ls (.int x :: st) σ = if x < 0 then exD X k a ls st σ else exD X k (pc + 3) ls st σ := by
  rw [exD_at h]
  show bS X k ls σ (if x < 0 then _ else _) = _
  rw [bS_ite]
  rfl
theorem g_ifCond_ge {X : SX} {k pc l a : Nat} {v : Int32} {tb : List (Int32 × Nat)} {n : Int} (h : fetch k pc = some (.ifCond .ge n, l, a, v, tb)) {ls : LS0} {st : List Value} {σ : SH} {x : Int32} : exD X k pc ls (.int x :: st) σ = if 0 ≤ x then exD X k a ls st σ else exD X k (pc + 3) ls st σ := by
  rw [exD_at h]
  show bS X k ls σ (if 0 ≤ x then _ else _) = _
  rw [bS_ite]
  rfl
theorem g_ifCond_gt {X : SX} {k pc l a : Nat} {v : Int32} {tb : List (Int32 × Nat)} {n : Int} (h : fetch k pc = some (.ifCond .gt n, l, a, v, tb)) {ls : LS0} {st : List Value} {σ : SH} {x : Int32} : exD X k pc ls (.int x :: st) σ = if 0 < x then exD X k a ls st σ else exD X k (pc + 3) ls st σ := by
  rw [exD_at h]
  show bS X k ls σ (if 0 < x then _ else _) = _
  rw [bS_ite]
  rfl
theorem g_ifCond_le {X : SX} {k pc l a : Nat} {v : Int32} {tb : List (Int32 × Nat)} {n : Int} (h : fetch k pc = some (.ifCond .le n, l, a, v, tb)) {ls : LS0} {st : List Value} {σ : SH} {x : Int32} : exD X k pc ls (.int x :: st) σ = if x ≤ 0 then exD X k a ls st σ else exD X k (pc + 3) ls st σ := by
  rw [exD_at h]
  show bS X k ls σ (if x ≤ 0 then _ else _) = _
  rw [bS_ite]
  rfl
theorem g_if_icmp_eq {X : SX} {k pc l a : Nat} {v : Int32} {tb : List (Int32 × Nat)} {n : Int} (h : fetch k pc = some (.if_icmp .eq n, l, a, v, tb)) {ls : LS0} {st : List Value} {σ : SH} {x y : Int32} : exD X k pc ls (.int y :: .int x :: st) σ = if x = y then exD X k a ls st σ else exD X k (pc + 3) ls st σ := by
  rw [exD_at h]
  show bS X k ls σ (if x = y then _ else _) = _
  rw [bS_ite]
  rfl
theorem g_if_icmp_ne {X : SX} {k pc l a : Nat} {v : Int32} {tb : List (Int32 × Nat)} {n : Int} (h : fetch k pc = some (.if_icmp .ne n, l, a, v, tb)) {ls : LS0} {st : List Value} {σ : SH} {x y : Int32} : exD X k pc ls (.int y :: .int x :: st) σ = if x = y then exD X k (pc + 3) ls st σ else exD X k a ls st σ := by
  rw [exD_at h]
  show bS X k ls σ (if x = y then _ else _) = _
  rw [bS_ite]
  rfl
theorem g_if_icmp_lt {X : SX} {k pc l a : Nat} {v : Int32} {tb : List (Int32 × Nat)} {n : Int} (h : fetch k pc = some (.if_icmp .lt n, l, a, v, tb)) {ls : LS0} {st : List Value} {σ : SH} {x y : Int32} : exD X k pc ls (.int y :: .int x :: st) σ = if x < y then exD X k a ls st σ else exD X k (pc + 3) ls st σ := by
  rw [exD_at h]
  show bS X k ls σ (if x < y then _ else _) = _
  rw [bS_ite]
  rfl
theorem g_if_icmp_ge {X : SX} {k pc l a : Nat} {v : Int32} {tb : List (Int32 × Nat)} {n : Int} (h : fetch k pc = some (.if_icmp .ge n, l, a, v, tb)) {ls : LS0} {st : List Value} {σ : SH} {x y : Int32} : exD X k pc ls (.int y :: .int x :: st) σ = if y ≤ x then exD X k a ls st σ else exD X k (pc + 3) ls st σ := by
  rw [exD_at h]
  show bS X k ls σ (if y ≤ x then _ else _) = _
  rw [bS_ite]
  rfl
theorem g_if_icmp_gt {X : SX} {k pc l a : Nat} {v : Int32} {tb : List (Int32 × Nat)} {n : Int} (h : fetch k pc = some (.if_icmp .gt n, l, a, v, tb)) {ls : LS0} {st : List Value} {σ : SH} {x y : Int32} : exD X k pc ls (.int y :: .int x :: st) σ = if y < x then exD X k a ls st σ else exD X k (pc + 3) ls st σ := by
  rw [exD_at h]
  show bS X k ls σ (if y < x then _ else _) = _
  rw [bS_ite]
  rfl
theorem g_if_icmp_le {X : SX} {k pc l a : Nat} {v : Int32} {tb : List (Int32 × Nat)} {n : Int} (h : fetch k pc = some (.if_icmp .le n, l, a, v, tb)) {ls : LS0} {st : List Value} {σ : SH} {x y : Int32} : exD X k pc ls (.int y :: .int x :: st) σ = if x ≤ y then exD X k a ls st σ else exD X k (pc + 3) ls st σ := by
  rw [exD_at h]
  show bS X k ls σ (if x ≤ y then _ else _) = _
  rw [bS_ite]
  rfl
noncomputable def swE (X : SX) (k d : Nat) (x : Int32) (ls : LS0) (st : List Value) (σ : SH) : List (Int32 × Nat) → Res
  | [] => exD X k d ls st σ
  | (y, t) :: r => if x = y then exD X k t ls st σ else swE X k d x ls st σ r
theorem swE_0 (X : SX) (k d : Nat) (x : Int32) (ls : LS0) (st : List Value) (σ : SH) : swE X k d x ls st σ [] = exD X k d ls st σ := rfl
theorem swE_s (X : SX) (k d : Nat) (x : Int32) (ls : LS0) (st : List Value) (σ : SH) (y : Int32) (t : Nat) (r : List (Int32 × Nat)) : swE X k d x ls st σ ((y, t) :: r) = if x = y then exD X k t ls st σ else swE X k d x ls st σ r := rfl
theorem swE_go (X : SX) (k d : Nat) (x : Int32) (ls ls' : LS0) (st : List Value) (σ : SH) : ∀ tb : List (Int32 × Nat), bS X k ls' σ (swX x d ls st σ tb) = swE X k d x ls st σ tb
  | [] => rfl
  | (y, t) :: r => by
    show bS X k ls' σ (if x = y then _ else _) = if x = y then _ else _
    rw [bS_ite, swE_go X k d x ls ls' st σ r]
    rfl
theorem g_tableswitch {X : SX} {k pc l a : Nat} {v : Int32} {tb : List (Int32 × Nat)} {d lo hi : Int} {os : Array Int} (h : fetch k pc = some (.tableswitch d lo hi os, l, a, v, tb)) {ls : LS0} {st : List Value} {σ : SH} {x : Int32} : exD X k pc ls (.int x :: st) σ = swE X k a x ls st σ tb := by
  rw [exD_at h]
  exact swE_go X k a x ls ls st σ tb
theorem g_gfI {X : SX} {k pc l a i : Nat} {v : Int32} {tb : List (Int32 × Nat)} {e : Nat × Nat × Nat × Nat} (h : fetch k pc = some (.getfield i, l, a, v, tb)) (he : FL[a]? = some e) (hf : ftag e.2.2.1 e.2.2.2 ≠ 2) {ls : LS0} {st : List Value} {I : Nat → Nat → Int32} {L : Nat → Nat → Int64} {b : Nat} (hb : hk (ms I L) b = some (0, e.2.2.1)) : exD X k pc ls (.ref b :: st) (ms I L) = exD X k (pc + 3) ls (.int (I b e.2.2.2) :: st) (ms I L) := by
  rw [exD_at h]
  simp only [stepI, he, oGf]
  rw [if_pos hb, if_neg hf, ms_I]
  rfl
theorem g_gfR {X : SX} {k pc l a i : Nat} {v : Int32} {tb : List (Int32 × Nat)} {e : Nat × Nat × Nat × Nat} (h : fetch k pc = some (.getfield i, l, a, v, tb)) (he : FL[a]? = some e) (hf : ftag e.2.2.1 e.2.2.2 = 2) {ls : LS0} {st : List Value} {I : Nat → Nat → Int32} {L : Nat → Nat → Int64} {b : Nat} (hb : hk (ms I L) b = some (0, e.2.2.1)) : exD X k pc ls (.ref b :: st) (ms I L) = gR (PP b e.2.2.2) (fun q => exD X k (pc + 3) ls (.ref q :: st) (ms I L)) := by
  rw [exD_at h]
  simp only [stepI, he, oGf]
  rw [if_pos hb, if_pos hf, ms_P]
  cases PP b e.2.2.2 <;> rfl
theorem g_pfI {X : SX} {k pc l a i : Nat} {v : Int32} {tb : List (Int32 × Nat)} {e : Nat × Nat × Nat × Nat} (h : fetch k pc = some (.putfield i, l, a, v, tb)) (he : FL[a]? = some e) (hf : ftag e.2.2.1 e.2.2.2 = 0) {ls : LS0} {st : List Value} {I : Nat → Nat → Int32} {L : Nat → Nat → Int64} {b : Nat} {x : Int32} (hb : hk (ms I L) b = some (0, e.2.2.1)) : exD X k pc ls (.int x :: .ref b :: st) (ms I L) = exD X k (pc + 3) ls st (ms (u2 I b e.2.2.2 x) L) := by
  rw [exD_at h]
  simp only [stepI, he, oPf]
  rw [if_pos hb, if_pos hf, ms_I, ms_L, ms_put]
  rfl
theorem g_pfZ {X : SX} {k pc l a i : Nat} {v : Int32} {tb : List (Int32 × Nat)} {e : Nat × Nat × Nat × Nat} (h : fetch k pc = some (.putfield i, l, a, v, tb)) (he : FL[a]? = some e) (hf : ftag e.2.2.1 e.2.2.2 = 1) {ls : LS0} {st : List Value} {I : Nat → Nat → Int32} {L : Nat → Nat → Int64} {b : Nat} {x : Int32} (hb : hk (ms I L) b = some (0, e.2.2.1)) : exD X k pc ls (.int x :: .ref b :: st) (ms I L) = if x = 0 ∨ x = 1 then exD X k (pc + 3) ls st (ms (u2 I b e.2.2.2 x) L) else none := by
  rw [exD_at h]
  simp only [stepI, he, oPf]
  rw [if_pos hb, if_neg (by rw [hf]; decide), ms_I, ms_L, ms_put, bS_ite]
  by_cases hx : x = 0 ∨ x = 1
  · rw [if_pos ⟨hf, hx⟩, if_pos hx]; rfl
  · rw [if_neg (fun q => hx q.2), if_neg hx]; rfl
theorem g_len {X : SX} {k pc l a : Nat} {v : Int32} {tb : List (Int32 × Nat)} (h : fetch k pc = some (.arraylength, l, a, v, tb)) {ls : LS0} {st : List Value} {I : Nat → Nat → Int32} {L : Nat → Nat → Int64} {b : Nat} (hb : b < 4096) : exD X k pc ls (.ref b :: st) (ms I L) = lnR (hk (ms I L) b) (fun n => exD X k (pc + 1) ls (.int (Int32.ofNat n) :: st) (ms I L)) := by
  rw [exD_at h]
  simp only [stepI, oLen]
  rw [if_pos hb]
  unfold hk
  rw [if_pos hb]
  generalize (ms I L).1[b]? = o
  match o with
  | none => rfl
  | some (0, n) => rfl
  | some (1, n) => rfl
  | some (2, n) => rfl
  | some (q + 3, n) => rfl
theorem g_iald {X : SX} {k pc l a : Nat} {v : Int32} {tb : List (Int32 × Nat)} (h : fetch k pc = some (.iaload, l, a, v, tb)) {ls : LS0} {st : List Value} {I : Nat → Nat → Int32} {L : Nat → Nat → Int64} {b : Nat} {i : Int32} (hb : b < 4096) : exD X k pc ls (.int i :: .ref b :: st) (ms I L) = iaR (hk (ms I L) b) i (exD X k (pc + 1) ls (.int (I b i.toNatClampNeg) :: st) (ms I L)) := by
  rw [exD_at h]
  simp only [stepI, oIald]
  rw [if_pos hb]
  unfold hk
  rw [if_pos hb, ms_I]
  generalize (ms I L).1[b]? = o
  match o with
  | none => rfl
  | some (0, n) => rfl
  | some (1, n) =>
    exact bS_ite X k ls (ms I L) (0 ≤ i ∧ i.toNatClampNeg < n) _ _
  | some (q + 2, n) => rfl
theorem g_lald {X : SX} {k pc l a : Nat} {v : Int32} {tb : List (Int32 × Nat)} (h : fetch k pc = some (.laload, l, a, v, tb)) {ls : LS0} {st : List Value} {I : Nat → Nat → Int32} {L : Nat → Nat → Int64} {b : Nat} {i : Int32} : exD X k pc ls (.int i :: .ref b :: st) (ms I L) = laR (hk (ms I L) b) i (exD X k (pc + 1) ls (.long (L b i.toNatClampNeg) :: st) (ms I L)) := by
  rw [exD_at h]
  simp only [stepI, oLald]
  rw [ms_L]
  generalize hk (ms I L) b = o
  match o with
  | none => rfl
  | some (0, n) => rfl
  | some (1, n) => rfl
  | some (2, n) =>
    exact bS_ite X k ls (ms I L) (0 ≤ i ∧ i.toNatClampNeg < n) _ _
  | some (q + 3, n) => rfl
theorem g_iast {X : SX} {k pc l a : Nat} {v : Int32} {tb : List (Int32 × Nat)} (h : fetch k pc = some (.iastore, l, a, v, tb)) {ls : LS0} {st : List Value} {I : Nat → Nat → Int32} {L : Nat → Nat → Int64} {b : Nat} {i x : Int32} : exD X k pc ls (.int x :: .int i :: .ref b :: st) (ms I L) = iaR (hk (ms I L) b) i (exD X k (pc + 1) ls st (ms (u2 I b i.toNatClampNeg x) L)) := by
  rw [exD_at h]
  simp only [stepI, oIast]
  rw [ms_I, ms_L, ms_put]
  generalize hk (ms I L) b = o
  match o with
  | none => rfl
  | some (0, n) => rfl
  | some (1, n) =>
    exact bS_ite X k ls (ms I L) (0 ≤ i ∧ i.toNatClampNeg < n) _ _
  | some (q + 2, n) => rfl
theorem g_last {X : SX} {k pc l a : Nat} {v : Int32} {tb : List (Int32 × Nat)} (h : fetch k pc = some (.lastore, l, a, v, tb)) {ls : LS0} {st : List Value} {I : Nat → Nat → Int32} {L : Nat → Nat → Int64} {b : Nat} {i : Int32} {x : Int64} : exD X k pc ls (.long x :: .int i :: .ref b :: st) (ms I L) = laR (hk (ms I L) b) i (exD X k (pc + 1) ls st (ms I (u2 L b i.toNatClampNeg x))) := by
  rw [exD_at h]
  simp only [stepI, oLast]
  rw [ms_I, ms_L, ms_put]
  generalize hk (ms I L) b = o
  match o with
  | none => rfl
  | some (0, n) => rfl
  | some (1, n) => rfl
  | some (2, n) =>
    exact bS_ite X k ls (ms I L) (0 ≤ i ∧ i.toNatClampNeg < n) _ _
  | some (q + 3, n) => rfl
theorem g_cpy {X : SX} {k pc l a x j m n : Nat} {v : Int32} {tb : List (Int32 × Nat)} {y : Nat} (h : fetch k pc = some (.invokestatic x, l, a, v, tb)) (he : ML[a]? = some (y, m, 6, j, n)) {ls : LS0} {I : Nat → Nat → Int32} {L : Nat → Nat → Int64} {b c : Nat} {p d s : Int32} : exD X k pc ls [.int p, .int d, .ref b, .int s, .ref c] (ms I L) = cpR (hk (ms I L) c) (hk (ms I L) b) p d s (exD X k (pc + 3) ls [] (ms (z2 I b (I c)) L)) := by
  rw [exD_at h]
  simp only [stepI, he, oCpy]
  rw [ms_I, ms_L, ms_put]
  generalize hk (ms I L) c = o1
  generalize hk (ms I L) b = o2
  match o1, o2 with
  | none, _ => rfl
  | some (0, n), _ => rfl
  | some (q + 2, n), _ => rfl
  | some (1, n), none => rfl
  | some (1, n), some (0, n2) => rfl
  | some (1, n), some (q + 2, n2) => rfl
  | some (1, n), some (1, n2) => exact bS_ite _ _ _ _ _ _ _
theorem g_max {X : SX} {k pc l a x0 j m n : Nat} {v : Int32} {tb : List (Int32 × Nat)} {y0 : Nat} (h : fetch k pc = some (.invokestatic x0, l, a, v, tb)) (he : ML[a]? = some (y0, m, 7, j, n)) {ls : LS0} {st : List Value} {σ : SH} {x y : Int32} (h8 : cS st ≤ 8) : exD X k pc ls (.int y :: .int x :: st) σ = exD X k (pc + 3) ls (.int (imx x y) :: st) σ := by
  rw [exD_at h]
  simp only [stepI, he, oMax]
  rw [if_pos h8]
  rfl
theorem g_min {X : SX} {k pc l a x0 j m n : Nat} {v : Int32} {tb : List (Int32 × Nat)} {y0 : Nat} (h : fetch k pc = some (.invokestatic x0, l, a, v, tb)) (he : ML[a]? = some (y0, m, 8, j, n)) {ls : LS0} {st : List Value} {σ : SH} {x y : Int32} (h8 : cS st ≤ 8) : exD X k pc ls (.int y :: .int x :: st) σ = exD X k (pc + 3) ls (.int (imn x y) :: st) σ := by
  rw [exD_at h]
  simp only [stepI, he, oMin]
  rw [if_pos h8]
  rfl
theorem g_cv {X : SX} {k pc l a x j m n o : Nat} {v : Int32} {tb : List (Int32 × Nat)} (h : fetch k pc = some (.invokevirtual x, l, a, v, tb)) (he : ML[a]? = some (o, m, 0, j, n)) {ls : LS0} {as st sk : List Value} {I : Nat → Nat → Int32} {L : Nat → Nat → Int64} {b : Nat} (hp : popA n sk = some (as, .ref b :: st)) (hw : cS (.ref b :: as) ≤ mL j) (h8 : cS st ≤ 8) (hb : hk (ms I L) b = some (0, mO j)) : exD X k pc ls sk (ms I L) = cR (caD X j (.ref b :: as) (ms I L)) (fun w s => exD X k (pc + 3) ls (psh w st) s) := by
  rw [exD_at h]
  simp only [stepI, he, oCV, hp]
  rw [if_pos ⟨h8, hb, hw⟩]
  unfold bS
  dsimp only
  generalize caD X j _ _ = o
  cases o with
  | none => rfl
  | some p => obtain ⟨w, s⟩ := p; rfl
theorem g_cs {X : SX} {k pc l a x j m n o kd : Nat} {v : Int32} {tb : List (Int32 × Nat)} (h : fetch k pc = some (.invokestatic x, l, a, v, tb)) (he : ML[a]? = some (o, m, kd, j, n)) (hkd : kd = 1 ∨ kd = 4) {ls : LS0} {as st sk : List Value} {σ : SH} (hp : popA n sk = some (as, st)) (hw : cS as ≤ mL j) (h8 : cS st ≤ 8) : exD X k pc ls sk σ = cR (caD X j as σ) (fun w s => exD X k (pc + 3) ls (psh w st) s) := by
  rw [exD_at h]
  have e : stepI X k pc (.invokestatic x, l, a, v, tb) ls sk σ = oCS j n (pc + 3) sk := by
    simp only [stepI, he]
    rcases hkd with rfl | rfl <;> rfl
  rw [e]
  simp only [oCS, hp]
  rw [if_pos ⟨h8, hw⟩]
  unfold bS
  dsimp only
  generalize caD X j _ _ = o
  cases o with
  | none => rfl
  | some p => obtain ⟨w, s⟩ := p; rfl
theorem g_iret {X : SX} {k pc l a : Nat} {v : Int32} {tb : List (Int32 × Nat)} (h : fetch k pc = some (.ireturn, l, a, v, tb)) (hr : mR k = some .int) {ls : LS0} {σ : SH} {x : Int32} : exD X k pc ls [.int x] σ = some (some (.int x), σ) := by
  rw [exD_at h]
  simp only [stepI, hr, oIret]
  rfl
theorem g_zret {X : SX} {k pc l a : Nat} {v : Int32} {tb : List (Int32 × Nat)} (h : fetch k pc = some (.ireturn, l, a, v, tb)) (hr : mR k = some .boolean) {ls : LS0} {σ : SH} {x : Int32} : exD X k pc ls [.int x] σ = if x = 0 ∨ x = 1 then some (some (.int x), σ) else none := by
  rw [exD_at h]
  simp only [stepI, hr, oZret]
  rw [bS_ite]
  rfl
theorem g_lret {X : SX} {k pc l a : Nat} {v : Int32} {tb : List (Int32 × Nat)} (h : fetch k pc = some (.lreturn, l, a, v, tb)) (hr : mR k = some .long) {ls : LS0} {σ : SH} {x : Int64} : exD X k pc ls [.long x] σ = some (some (.long x), σ) := by
  rw [exD_at h]
  simp only [stepI, hr, oLret]
  rfl
theorem g_vret {X : SX} {k pc l a : Nat} {v : Int32} {tb : List (Int32 × Nat)} (h : fetch k pc = some (.return_, l, a, v, tb)) (hr : mR k = none) {ls : LS0} {σ : SH} : exD X k pc ls [] σ = some (none, σ) := by
  rw [exD_at h]
  simp only [stepI, hr, oVret]
  rfl
theorem n32_0_1 : ((0 : Int32) = 1) = False := eq_false (by decide)
theorem n32_0_2 : ((0 : Int32) = 2) = False := eq_false (by decide)
theorem n32_0_3 : ((0 : Int32) = 3) = False := eq_false (by decide)
theorem n32_0_4 : ((0 : Int32) = 4) = False := eq_false (by decide)
theorem n32_0_5 : ((0 : Int32) = 5) = False := eq_false (by decide)
theorem n32_0_6 : ((0 : Int32) = 6) = False := eq_false (by decide)
theorem n32_0_7 : ((0 : Int32) = 7) = False := eq_false (by decide)
theorem n32_0_8 : ((0 : Int32) = 8) = False := eq_false (by decide)
theorem n32_1_0 : ((1 : Int32) = 0) = False := eq_false (by decide)
theorem n32_1_2 : ((1 : Int32) = 2) = False := eq_false (by decide)
theorem n32_1_3 : ((1 : Int32) = 3) = False := eq_false (by decide)
theorem n32_1_4 : ((1 : Int32) = 4) = False := eq_false (by decide)
theorem n32_1_5 : ((1 : Int32) = 5) = False := eq_false (by decide)
theorem n32_1_6 : ((1 : Int32) = 6) = False := eq_false (by decide)
theorem n32_1_7 : ((1 : Int32) = 7) = False := eq_false (by decide)
theorem n32_1_8 : ((1 : Int32) = 8) = False := eq_false (by decide)
theorem n32_2_0 : ((2 : Int32) = 0) = False := eq_false (by decide)
theorem n32_2_1 : ((2 : Int32) = 1) = False := eq_false (by decide)
theorem n32_2_3 : ((2 : Int32) = 3) = False := eq_false (by decide)
theorem n32_2_4 : ((2 : Int32) = 4) = False := eq_false (by decide)
theorem n32_2_5 : ((2 : Int32) = 5) = False := eq_false (by decide)
theorem n32_2_6 : ((2 : Int32) = 6) = False := eq_false (by decide)
theorem n32_2_7 : ((2 : Int32) = 7) = False := eq_false (by decide)
theorem n32_2_8 : ((2 : Int32) = 8) = False := eq_false (by decide)
theorem n32_3_0 : ((3 : Int32) = 0) = False := eq_false (by decide)
theorem n32_3_1 : ((3 : Int32) = 1) = False := eq_false (by decide)
theorem n32_3_2 : ((3 : Int32) = 2) = False := eq_false (by decide)
theorem n32_3_4 : ((3 : Int32) = 4) = False := eq_false (by decide)
theorem n32_3_5 : ((3 : Int32) = 5) = False := eq_false (by decide)
theorem n32_3_6 : ((3 : Int32) = 6) = False := eq_false (by decide)
theorem n32_3_7 : ((3 : Int32) = 7) = False := eq_false (by decide)
theorem n32_3_8 : ((3 : Int32) = 8) = False := eq_false (by decide)
theorem n32_4_0 : ((4 : Int32) = 0) = False := eq_false (by decide)
theorem n32_4_1 : ((4 : Int32) = 1) = False := eq_false (by decide)
theorem n32_4_2 : ((4 : Int32) = 2) = False := eq_false (by decide)
theorem n32_4_3 : ((4 : Int32) = 3) = False := eq_false (by decide)
theorem n32_4_5 : ((4 : Int32) = 5) = False := eq_false (by decide)
theorem n32_4_6 : ((4 : Int32) = 6) = False := eq_false (by decide)
theorem n32_4_7 : ((4 : Int32) = 7) = False := eq_false (by decide)
theorem n32_4_8 : ((4 : Int32) = 8) = False := eq_false (by decide)
theorem n32_5_0 : ((5 : Int32) = 0) = False := eq_false (by decide)
theorem n32_5_1 : ((5 : Int32) = 1) = False := eq_false (by decide)
theorem n32_5_2 : ((5 : Int32) = 2) = False := eq_false (by decide)
theorem n32_5_3 : ((5 : Int32) = 3) = False := eq_false (by decide)
theorem n32_5_4 : ((5 : Int32) = 4) = False := eq_false (by decide)
theorem n32_5_6 : ((5 : Int32) = 6) = False := eq_false (by decide)
theorem n32_5_7 : ((5 : Int32) = 7) = False := eq_false (by decide)
theorem n32_5_8 : ((5 : Int32) = 8) = False := eq_false (by decide)
theorem n32_6_0 : ((6 : Int32) = 0) = False := eq_false (by decide)
theorem n32_6_1 : ((6 : Int32) = 1) = False := eq_false (by decide)
theorem n32_6_2 : ((6 : Int32) = 2) = False := eq_false (by decide)
theorem n32_6_3 : ((6 : Int32) = 3) = False := eq_false (by decide)
theorem n32_6_4 : ((6 : Int32) = 4) = False := eq_false (by decide)
theorem n32_6_5 : ((6 : Int32) = 5) = False := eq_false (by decide)
theorem n32_6_7 : ((6 : Int32) = 7) = False := eq_false (by decide)
theorem n32_6_8 : ((6 : Int32) = 8) = False := eq_false (by decide)
theorem n32_7_0 : ((7 : Int32) = 0) = False := eq_false (by decide)
theorem n32_7_1 : ((7 : Int32) = 1) = False := eq_false (by decide)
theorem n32_7_2 : ((7 : Int32) = 2) = False := eq_false (by decide)
theorem n32_7_3 : ((7 : Int32) = 3) = False := eq_false (by decide)
theorem n32_7_4 : ((7 : Int32) = 4) = False := eq_false (by decide)
theorem n32_7_5 : ((7 : Int32) = 5) = False := eq_false (by decide)
theorem n32_7_6 : ((7 : Int32) = 6) = False := eq_false (by decide)
theorem n32_7_8 : ((7 : Int32) = 8) = False := eq_false (by decide)
theorem n32_8_0 : ((8 : Int32) = 0) = False := eq_false (by decide)
theorem n32_8_1 : ((8 : Int32) = 1) = False := eq_false (by decide)
theorem n32_8_2 : ((8 : Int32) = 2) = False := eq_false (by decide)
theorem n32_8_3 : ((8 : Int32) = 3) = False := eq_false (by decide)
theorem n32_8_4 : ((8 : Int32) = 4) = False := eq_false (by decide)
theorem n32_8_5 : ((8 : Int32) = 5) = False := eq_false (by decide)
theorem n32_8_6 : ((8 : Int32) = 6) = False := eq_false (by decide)
theorem n32_8_7 : ((8 : Int32) = 7) = False := eq_false (by decide)
theorem n32_m1_0 : ((-1 : Int32) = 0) = False := eq_false (by decide)
theorem n32_m1_1 : ((-1 : Int32) = 1) = False := eq_false (by decide)
theorem n32_m1_2 : ((-1 : Int32) = 2) = False := eq_false (by decide)
theorem n32_m2_0 : ((-2 : Int32) = 0) = False := eq_false (by decide)
theorem n32_m2_1 : ((-2 : Int32) = 1) = False := eq_false (by decide)
theorem n32_m2_2 : ((-2 : Int32) = 2) = False := eq_false (by decide)
theorem n32_m3_0 : ((-3 : Int32) = 0) = False := eq_false (by decide)
theorem n32_m3_1 : ((-3 : Int32) = 1) = False := eq_false (by decide)
theorem n32_m3_2 : ((-3 : Int32) = 2) = False := eq_false (by decide)
theorem n32_m4_0 : ((-4 : Int32) = 0) = False := eq_false (by decide)
theorem n32_m4_1 : ((-4 : Int32) = 1) = False := eq_false (by decide)
theorem n32_m4_2 : ((-4 : Int32) = 2) = False := eq_false (by decide)
theorem n32_m6_0 : ((-6 : Int32) = 0) = False := eq_false (by decide)
theorem n32_m6_1 : ((-6 : Int32) = 1) = False := eq_false (by decide)
theorem n32_m6_2 : ((-6 : Int32) = 2) = False := eq_false (by decide)
theorem n32_m9_0 : ((-9 : Int32) = 0) = False := eq_false (by decide)
theorem n32_m9_1 : ((-9 : Int32) = 1) = False := eq_false (by decide)
theorem n32_m9_2 : ((-9 : Int32) = 2) = False := eq_false (by decide)
