/-! a row an instruction (printed by wip/whole/gen6.py) -/
theorem a177_1 {X : SX} {c0 : Option Value} {x : Int32} {t : LS0} {st : List Value} {σ : SH} : exD X 177 1 (c0 :: some (.int x) :: t) st σ = exD X 177 2 (c0 :: some (.int x) :: t) (.int x :: st) σ := g_iload_1 rfl
theorem a177_2 {X : SX} {c0 c1 : Option Value} {x : Int32} {t : LS0} {st : List Value} {σ : SH} : exD X 177 2 (c0 :: c1 :: some (.int x) :: t) st σ = exD X 177 3 (c0 :: c1 :: some (.int x) :: t) (.int x :: st) σ := g_iload_2 rfl
theorem a177_3 {X : SX} {ls : LS0} {st : List Value} {I : Nat → Nat → Int32} {L : Nat → Nat → Int64} {w0 : Int32} {w1 : Int32} {b : Nat} (hb : hk (ms I L) b = some (0, 10)) (h8 : cS st ≤ 8) : exD X 177 3 ls (.int w1 :: .int w0 :: .ref b :: st) (ms I L) = cR (caD X 166 [.ref b, .int w0, .int w1] (ms I L)) (fun w s => exD X 177 6 ls (psh w st) s) := g_cv rfl rfl rfl (Nat.le_of_ble_eq_true rfl) h8 hb
theorem a177_6 {X : SX} {c0 c1 c2 c3 : Option Value} {x : Int32} {t : LS0} {st : List Value} {σ : SH} : exD X 177 6 (c0 :: c1 :: c2 :: c3 :: t) (.int x :: st) σ = exD X 177 7 (stS 3 (.int x) (c0 :: c1 :: c2 :: c3 :: t)) st σ := g_istore_3 rfl
theorem a177_7 {X : SX} {c0 c1 c2 : Option Value} {x : Int32} {t : LS0} {st : List Value} {σ : SH} : exD X 177 7 (c0 :: c1 :: c2 :: some (.int x) :: t) st σ = exD X 177 8 (c0 :: c1 :: c2 :: some (.int x) :: t) (.int x :: st) σ := g_iload_3 rfl
theorem a177_8 {X : SX} {ls : LS0} {st : List Value} {σ : SH} {x : Int32} : exD X 177 8 ls (.int x :: st) σ = if x = 0 then exD X 177 17 ls st σ else exD X 177 11 ls st σ := g_ifCond_eq rfl
theorem a177_11 {X : SX} {x : Nat} {t : LS0} {st : List Value} {σ : SH} : exD X 177 11 (some (.ref x) :: t) st σ = exD X 177 12 (some (.ref x) :: t) (.ref x :: st) σ := g_aload_0 rfl
theorem a177_12 {X : SX} {c0 c1 c2 : Option Value} {x : Int32} {t : LS0} {st : List Value} {σ : SH} : exD X 177 12 (c0 :: c1 :: c2 :: some (.int x) :: t) st σ = exD X 177 13 (c0 :: c1 :: c2 :: some (.int x) :: t) (.int x :: st) σ := g_iload_3 rfl
theorem a177_13 {X : SX} {ls : LS0} {st : List Value} {I : Nat → Nat → Int32} {L : Nat → Nat → Int64} {w0 : Int32} {b : Nat} (hb : hk (ms I L) b = some (0, 10)) (h8 : cS st ≤ 8) : exD X 177 13 ls (.int w0 :: .ref b :: st) (ms I L) = cR (caD X 121 [.ref b, .int w0] (ms I L)) (fun w s => exD X 177 16 ls (psh w st) s) := g_cv rfl rfl rfl (Nat.le_of_ble_eq_true rfl) h8 hb
theorem a177_16 {X : SX} {ls : LS0} {σ : SH} {x : Int32} : exD X 177 16 ls [.int x] σ = some (some (.int x), σ) := g_iret rfl rfl
theorem a177_17 {X : SX} {ls : LS0} {st : List Value} {σ : SH} : exD X 177 17 ls st σ = exD X 177 18 ls (.int 0 :: st) σ := g_iconst rfl
theorem a177_18 {X : SX} {c0 c1 c2 c3 c4 : Option Value} {x : Int32} {t : LS0} {st : List Value} {σ : SH} : exD X 177 18 (c0 :: c1 :: c2 :: c3 :: c4 :: t) (.int x :: st) σ = exD X 177 20 (stS 4 (.int x) (c0 :: c1 :: c2 :: c3 :: c4 :: t)) st σ := g_istore_4 rfl
theorem a177_20 {X : SX} {x : Nat} {t : LS0} {st : List Value} {σ : SH} : exD X 177 20 (some (.ref x) :: t) st σ = exD X 177 21 (some (.ref x) :: t) (.ref x :: st) σ := g_aload_0 rfl
theorem a177_21 {X : SX} {c0 : Option Value} {x : Int32} {t : LS0} {st : List Value} {σ : SH} : exD X 177 21 (c0 :: some (.int x) :: t) st σ = exD X 177 22 (c0 :: some (.int x) :: t) (.int x :: st) σ := g_iload_1 rfl
theorem a177_22 {X : SX} {c0 c1 : Option Value} {x : Int32} {t : LS0} {st : List Value} {σ : SH} : exD X 177 22 (c0 :: c1 :: some (.int x) :: t) st σ = exD X 177 23 (c0 :: c1 :: some (.int x) :: t) (.int x :: st) σ := g_iload_2 rfl
theorem a177_23 {X : SX} {ls : LS0} {st : List Value} {σ : SH} : exD X 177 23 ls st σ = exD X 177 24 ls (.int 0 :: st) σ := g_iconst rfl
theorem a177_24 {X : SX} {ls : LS0} {st : List Value} {σ : SH} : exD X 177 24 ls st σ = exD X 177 26 ls (.int (-9) :: st) σ := g_bipush rfl
theorem a177_26 {X : SX} {ls : LS0} {st : List Value} {I : Nat → Nat → Int32} {L : Nat → Nat → Int64} {w0 : Int32} {w1 : Int32} {w2 : Int32} {w3 : Int32} {b : Nat} (hb : hk (ms I L) b = some (0, 10)) (h8 : cS st ≤ 8) : exD X 177 26 ls (.int w3 :: .int w2 :: .int w1 :: .int w0 :: .ref b :: st) (ms I L) = cR (caD X 165 [.ref b, .int w0, .int w1, .int w2, .int w3] (ms I L)) (fun w s => exD X 177 29 ls (psh w st) s) := g_cv rfl rfl rfl (Nat.le_of_ble_eq_true rfl) h8 hb
theorem a177_29 {X : SX} {c0 c1 c2 c3 c4 c5 : Option Value} {x : Int32} {t : LS0} {st : List Value} {σ : SH} : exD X 177 29 (c0 :: c1 :: c2 :: c3 :: c4 :: c5 :: t) (.int x :: st) σ = exD X 177 31 (stS 5 (.int x) (c0 :: c1 :: c2 :: c3 :: c4 :: c5 :: t)) st σ := g_istore_5 rfl
theorem a177_31 {X : SX} {ls : LS0} {st : List Value} {σ : SH} : exD X 177 31 ls st σ = exD X 177 32 ls (.int 1 :: st) σ := g_iconst rfl
theorem a177_32 {X : SX} {c0 c1 c2 c3 c4 c5 c6 : Option Value} {x : Int32} {t : LS0} {st : List Value} {σ : SH} : exD X 177 32 (c0 :: c1 :: c2 :: c3 :: c4 :: c5 :: c6 :: t) (.int x :: st) σ = exD X 177 34 (stS 6 (.int x) (c0 :: c1 :: c2 :: c3 :: c4 :: c5 :: c6 :: t)) st σ := g_istore_6 rfl
theorem a177_34 {X : SX} {c0 c1 c2 c3 c4 c5 : Option Value} {x : Int32} {t : LS0} {st : List Value} {σ : SH} : exD X 177 34 (c0 :: c1 :: c2 :: c3 :: c4 :: c5 :: some (.int x) :: t) st σ = exD X 177 36 (c0 :: c1 :: c2 :: c3 :: c4 :: c5 :: some (.int x) :: t) (.int x :: st) σ := g_iload_6 rfl
theorem a177_36 {X : SX} {x : Nat} {t : LS0} {st : List Value} {σ : SH} : exD X 177 36 (some (.ref x) :: t) st σ = exD X 177 37 (some (.ref x) :: t) (.ref x :: st) σ := g_aload_0 rfl
theorem a177_37 {X : SX} {ls : LS0} {st : List Value} {I : Nat → Nat → Int32} {L : Nat → Nat → Int64} {b : Nat} (hb : hk (ms I L) b = some (0, 10)) : exD X 177 37 ls (.ref b :: st) (ms I L) = exD X 177 40 ls (.int (I b 13) :: st) (ms I L) := g_gfI (e := (10, 49, 10, 13)) rfl rfl (by decide +kernel) hb
theorem a177_40 {X : SX} {ls : LS0} {st : List Value} {σ : SH} {x y : Int32} : exD X 177 40 ls (.int y :: .int x :: st) σ = if y ≤ x then exD X 177 79 ls st σ else exD X 177 43 ls st σ := g_if_icmp_ge rfl
theorem a177_43 {X : SX} {x : Nat} {t : LS0} {st : List Value} {σ : SH} : exD X 177 43 (some (.ref x) :: t) st σ = exD X 177 44 (some (.ref x) :: t) (.ref x :: st) σ := g_aload_0 rfl
theorem a177_44 {X : SX} {c0 : Option Value} {x : Int32} {t : LS0} {st : List Value} {σ : SH} : exD X 177 44 (c0 :: some (.int x) :: t) st σ = exD X 177 45 (c0 :: some (.int x) :: t) (.int x :: st) σ := g_iload_1 rfl
theorem a177_45 {X : SX} {c0 c1 : Option Value} {x : Int32} {t : LS0} {st : List Value} {σ : SH} : exD X 177 45 (c0 :: c1 :: some (.int x) :: t) st σ = exD X 177 46 (c0 :: c1 :: some (.int x) :: t) (.int x :: st) σ := g_iload_2 rfl
theorem a177_46 {X : SX} {c0 c1 c2 c3 c4 c5 : Option Value} {x : Int32} {t : LS0} {st : List Value} {σ : SH} : exD X 177 46 (c0 :: c1 :: c2 :: c3 :: c4 :: c5 :: some (.int x) :: t) st σ = exD X 177 48 (c0 :: c1 :: c2 :: c3 :: c4 :: c5 :: some (.int x) :: t) (.int x :: st) σ := g_iload_6 rfl
theorem a177_48 {X : SX} {ls : LS0} {st : List Value} {σ : SH} : exD X 177 48 ls st σ = exD X 177 50 ls (.int (-9) :: st) σ := g_bipush rfl
theorem a177_50 {X : SX} {ls : LS0} {st : List Value} {I : Nat → Nat → Int32} {L : Nat → Nat → Int64} {w0 : Int32} {w1 : Int32} {w2 : Int32} {w3 : Int32} {b : Nat} (hb : hk (ms I L) b = some (0, 10)) (h8 : cS st ≤ 8) : exD X 177 50 ls (.int w3 :: .int w2 :: .int w1 :: .int w0 :: .ref b :: st) (ms I L) = cR (caD X 165 [.ref b, .int w0, .int w1, .int w2, .int w3] (ms I L)) (fun w s => exD X 177 53 ls (psh w st) s) := g_cv rfl rfl rfl (Nat.le_of_ble_eq_true rfl) h8 hb
theorem a177_53 {X : SX} {c0 c1 c2 c3 c4 c5 c6 c7 : Option Value} {x : Int32} {t : LS0} {st : List Value} {σ : SH} : exD X 177 53 (c0 :: c1 :: c2 :: c3 :: c4 :: c5 :: c6 :: c7 :: t) (.int x :: st) σ = exD X 177 55 (stS 7 (.int x) (c0 :: c1 :: c2 :: c3 :: c4 :: c5 :: c6 :: c7 :: t)) st σ := g_istore_7 rfl
theorem a177_55 {X : SX} {c0 c1 c2 c3 c4 c5 c6 : Option Value} {x : Int32} {t : LS0} {st : List Value} {σ : SH} : exD X 177 55 (c0 :: c1 :: c2 :: c3 :: c4 :: c5 :: c6 :: some (.int x) :: t) st σ = exD X 177 57 (c0 :: c1 :: c2 :: c3 :: c4 :: c5 :: c6 :: some (.int x) :: t) (.int x :: st) σ := g_iload_7 rfl
theorem a177_57 {X : SX} {c0 c1 c2 c3 c4 : Option Value} {x : Int32} {t : LS0} {st : List Value} {σ : SH} : exD X 177 57 (c0 :: c1 :: c2 :: c3 :: c4 :: some (.int x) :: t) st σ = exD X 177 59 (c0 :: c1 :: c2 :: c3 :: c4 :: some (.int x) :: t) (.int x :: st) σ := g_iload_5 rfl
theorem a177_59 {X : SX} {ls : LS0} {st : List Value} {σ : SH} {x y : Int32} : exD X 177 59 ls (.int y :: .int x :: st) σ = if x < y then exD X 177 65 ls st σ else exD X 177 62 ls st σ := g_if_icmp_lt rfl
theorem a177_62 {X : SX} {ls : LS0} {st : List Value} {σ : SH} : exD X 177 62 ls st σ = exD X 177 73 ls st σ := g_goto rfl
theorem a177_65 {X : SX} {c0 c1 c2 c3 c4 c5 : Option Value} {x : Int32} {t : LS0} {st : List Value} {σ : SH} : exD X 177 65 (c0 :: c1 :: c2 :: c3 :: c4 :: c5 :: some (.int x) :: t) st σ = exD X 177 67 (c0 :: c1 :: c2 :: c3 :: c4 :: c5 :: some (.int x) :: t) (.int x :: st) σ := g_iload_6 rfl
theorem a177_67 {X : SX} {c0 c1 c2 c3 c4 : Option Value} {x : Int32} {t : LS0} {st : List Value} {σ : SH} : exD X 177 67 (c0 :: c1 :: c2 :: c3 :: c4 :: t) (.int x :: st) σ = exD X 177 69 (stS 4 (.int x) (c0 :: c1 :: c2 :: c3 :: c4 :: t)) st σ := g_istore_4 rfl
theorem a177_69 {X : SX} {c0 c1 c2 c3 c4 c5 c6 : Option Value} {x : Int32} {t : LS0} {st : List Value} {σ : SH} : exD X 177 69 (c0 :: c1 :: c2 :: c3 :: c4 :: c5 :: c6 :: some (.int x) :: t) st σ = exD X 177 71 (c0 :: c1 :: c2 :: c3 :: c4 :: c5 :: c6 :: some (.int x) :: t) (.int x :: st) σ := g_iload_7 rfl
theorem a177_71 {X : SX} {c0 c1 c2 c3 c4 c5 : Option Value} {x : Int32} {t : LS0} {st : List Value} {σ : SH} : exD X 177 71 (c0 :: c1 :: c2 :: c3 :: c4 :: c5 :: t) (.int x :: st) σ = exD X 177 73 (stS 5 (.int x) (c0 :: c1 :: c2 :: c3 :: c4 :: c5 :: t)) st σ := g_istore_5 rfl
theorem a177_73 {X : SX} {c0 c1 c2 c3 c4 c5 : Option Value} {x : Int32} {t : LS0} {st : List Value} {σ : SH} : exD X 177 73 (c0 :: c1 :: c2 :: c3 :: c4 :: c5 :: some (.int x) :: t) st σ = exD X 177 76 (stS 6 (.int (x + 1)) (c0 :: c1 :: c2 :: c3 :: c4 :: c5 :: some (.int x) :: t)) st σ := g_iinc_6 rfl
theorem a177_76 {X : SX} {ls : LS0} {st : List Value} {σ : SH} : exD X 177 76 ls st σ = exD X 177 34 ls st σ := g_goto rfl
theorem a177_79 {X : SX} {c0 c1 c2 c3 : Option Value} {x : Int32} {t : LS0} {st : List Value} {σ : SH} : exD X 177 79 (c0 :: c1 :: c2 :: c3 :: some (.int x) :: t) st σ = exD X 177 81 (c0 :: c1 :: c2 :: c3 :: some (.int x) :: t) (.int x :: st) σ := g_iload_4 rfl
theorem a177_81 {X : SX} {ls : LS0} {σ : SH} {x : Int32} : exD X 177 81 ls [.int x] σ = some (some (.int x), σ) := g_iret rfl rfl
theorem a178_0 {X : SX} {x : Nat} {t : LS0} {st : List Value} {σ : SH} : exD X 178 0 (some (.ref x) :: t) st σ = exD X 178 1 (some (.ref x) :: t) (.ref x :: st) σ := g_aload_0 rfl
theorem a178_1 {X : SX} {c0 : Option Value} {x : Int32} {t : LS0} {st : List Value} {σ : SH} : exD X 178 1 (c0 :: some (.int x) :: t) st σ = exD X 178 2 (c0 :: some (.int x) :: t) (.int x :: st) σ := g_iload_1 rfl
theorem a178_2 {X : SX} {c0 c1 : Option Value} {x : Int32} {t : LS0} {st : List Value} {σ : SH} : exD X 178 2 (c0 :: c1 :: some (.int x) :: t) st σ = exD X 178 3 (c0 :: c1 :: some (.int x) :: t) (.int x :: st) σ := g_iload_2 rfl
theorem a178_3 {X : SX} {ls : LS0} {st : List Value} {I : Nat → Nat → Int32} {L : Nat → Nat → Int64} {w0 : Int32} {w1 : Int32} {b : Nat} (hb : hk (ms I L) b = some (0, 10)) (h8 : cS st ≤ 8) : exD X 178 3 ls (.int w1 :: .int w0 :: .ref b :: st) (ms I L) = cR (caD X 166 [.ref b, .int w0, .int w1] (ms I L)) (fun w s => exD X 178 6 ls (psh w st) s) := g_cv rfl rfl rfl (Nat.le_of_ble_eq_true rfl) h8 hb
theorem a178_6 {X : SX} {c0 c1 c2 c3 : Option Value} {x : Int32} {t : LS0} {st : List Value} {σ : SH} : exD X 178 6 (c0 :: c1 :: c2 :: c3 :: t) (.int x :: st) σ = exD X 178 7 (stS 3 (.int x) (c0 :: c1 :: c2 :: c3 :: t)) st σ := g_istore_3 rfl
theorem a178_7 {X : SX} {c0 c1 c2 : Option Value} {x : Int32} {t : LS0} {st : List Value} {σ : SH} : exD X 178 7 (c0 :: c1 :: c2 :: some (.int x) :: t) st σ = exD X 178 8 (c0 :: c1 :: c2 :: some (.int x) :: t) (.int x :: st) σ := g_iload_3 rfl
theorem a178_8 {X : SX} {ls : LS0} {st : List Value} {σ : SH} {x : Int32} : exD X 178 8 ls (.int x :: st) σ = if x = 0 then exD X 178 17 ls st σ else exD X 178 11 ls st σ := g_ifCond_eq rfl
theorem a178_11 {X : SX} {x : Nat} {t : LS0} {st : List Value} {σ : SH} : exD X 178 11 (some (.ref x) :: t) st σ = exD X 178 12 (some (.ref x) :: t) (.ref x :: st) σ := g_aload_0 rfl
theorem a178_12 {X : SX} {c0 c1 c2 : Option Value} {x : Int32} {t : LS0} {st : List Value} {σ : SH} : exD X 178 12 (c0 :: c1 :: c2 :: some (.int x) :: t) st σ = exD X 178 13 (c0 :: c1 :: c2 :: some (.int x) :: t) (.int x :: st) σ := g_iload_3 rfl
theorem a178_13 {X : SX} {ls : LS0} {st : List Value} {I : Nat → Nat → Int32} {L : Nat → Nat → Int64} {w0 : Int32} {b : Nat} (hb : hk (ms I L) b = some (0, 10)) (h8 : cS st ≤ 8) : exD X 178 13 ls (.int w0 :: .ref b :: st) (ms I L) = cR (caD X 121 [.ref b, .int w0] (ms I L)) (fun w s => exD X 178 16 ls (psh w st) s) := g_cv rfl rfl rfl (Nat.le_of_ble_eq_true rfl) h8 hb
theorem a178_16 {X : SX} {ls : LS0} {σ : SH} {x : Int32} : exD X 178 16 ls [.int x] σ = some (some (.int x), σ) := g_iret rfl rfl
theorem a178_17 {X : SX} {ls : LS0} {st : List Value} {σ : SH} : exD X 178 17 ls st σ = exD X 178 19 ls (.int (-9) :: st) σ := g_bipush rfl
theorem a178_19 {X : SX} {c0 c1 c2 c3 c4 : Option Value} {x : Int32} {t : LS0} {st : List Value} {σ : SH} : exD X 178 19 (c0 :: c1 :: c2 :: c3 :: c4 :: t) (.int x :: st) σ = exD X 178 21 (stS 4 (.int x) (c0 :: c1 :: c2 :: c3 :: c4 :: t)) st σ := g_istore_4 rfl
theorem a178_21 {X : SX} {x : Nat} {t : LS0} {st : List Value} {σ : SH} : exD X 178 21 (some (.ref x) :: t) st σ = exD X 178 22 (some (.ref x) :: t) (.ref x :: st) σ := g_aload_0 rfl
theorem a178_22 {X : SX} {c0 : Option Value} {x : Int32} {t : LS0} {st : List Value} {σ : SH} : exD X 178 22 (c0 :: some (.int x) :: t) st σ = exD X 178 23 (c0 :: some (.int x) :: t) (.int x :: st) σ := g_iload_1 rfl
theorem a178_23 {X : SX} {c0 c1 : Option Value} {x : Int32} {t : LS0} {st : List Value} {σ : SH} : exD X 178 23 (c0 :: c1 :: some (.int x) :: t) st σ = exD X 178 24 (c0 :: c1 :: some (.int x) :: t) (.int x :: st) σ := g_iload_2 rfl
theorem a178_24 {X : SX} {ls : LS0} {st : List Value} {σ : SH} : exD X 178 24 ls st σ = exD X 178 26 ls (.int (-9) :: st) σ := g_bipush rfl
theorem a178_26 {X : SX} {ls : LS0} {st : List Value} {σ : SH} : exD X 178 26 ls st σ = exD X 178 28 ls (.int (-9) :: st) σ := g_bipush rfl
theorem a178_28 {X : SX} {ls : LS0} {st : List Value} {I : Nat → Nat → Int32} {L : Nat → Nat → Int64} {w0 : Int32} {w1 : Int32} {w2 : Int32} {w3 : Int32} {b : Nat} (hb : hk (ms I L) b = some (0, 10)) (h8 : cS st ≤ 8) : exD X 178 28 ls (.int w3 :: .int w2 :: .int w1 :: .int w0 :: .ref b :: st) (ms I L) = cR (caD X 165 [.ref b, .int w0, .int w1, .int w2, .int w3] (ms I L)) (fun w s => exD X 178 31 ls (psh w st) s) := g_cv rfl rfl rfl (Nat.le_of_ble_eq_true rfl) h8 hb
theorem a178_31 {X : SX} {c0 c1 c2 c3 c4 c5 : Option Value} {x : Int32} {t : LS0} {st : List Value} {σ : SH} : exD X 178 31 (c0 :: c1 :: c2 :: c3 :: c4 :: c5 :: t) (.int x :: st) σ = exD X 178 33 (stS 5 (.int x) (c0 :: c1 :: c2 :: c3 :: c4 :: c5 :: t)) st σ := g_istore_5 rfl
theorem a178_33 {X : SX} {ls : LS0} {st : List Value} {σ : SH} : exD X 178 33 ls st σ = exD X 178 34 ls (.int 0 :: st) σ := g_iconst rfl
theorem a178_34 {X : SX} {c0 c1 c2 c3 c4 c5 c6 : Option Value} {x : Int32} {t : LS0} {st : List Value} {σ : SH} : exD X 178 34 (c0 :: c1 :: c2 :: c3 :: c4 :: c5 :: c6 :: t) (.int x :: st) σ = exD X 178 36 (stS 6 (.int x) (c0 :: c1 :: c2 :: c3 :: c4 :: c5 :: c6 :: t)) st σ := g_istore_6 rfl
theorem a178_36 {X : SX} {c0 c1 c2 c3 c4 c5 : Option Value} {x : Int32} {t : LS0} {st : List Value} {σ : SH} : exD X 178 36 (c0 :: c1 :: c2 :: c3 :: c4 :: c5 :: some (.int x) :: t) st σ = exD X 178 38 (c0 :: c1 :: c2 :: c3 :: c4 :: c5 :: some (.int x) :: t) (.int x :: st) σ := g_iload_6 rfl
theorem a178_38 {X : SX} {x : Nat} {t : LS0} {st : List Value} {σ : SH} : exD X 178 38 (some (.ref x) :: t) st σ = exD X 178 39 (some (.ref x) :: t) (.ref x :: st) σ := g_aload_0 rfl
theorem a178_39 {X : SX} {ls : LS0} {st : List Value} {I : Nat → Nat → Int32} {L : Nat → Nat → Int64} {b : Nat} (hb : hk (ms I L) b = some (0, 10)) : exD X 178 39 ls (.ref b :: st) (ms I L) = exD X 178 42 ls (.int (I b 13) :: st) (ms I L) := g_gfI (e := (10, 49, 10, 13)) rfl rfl (by decide +kernel) hb
theorem a178_42 {X : SX} {ls : LS0} {st : List Value} {σ : SH} {x y : Int32} : exD X 178 42 ls (.int y :: .int x :: st) σ = if y ≤ x then exD X 178 145 ls st σ else exD X 178 45 ls st σ := g_if_icmp_ge rfl
theorem a178_45 {X : SX} {c0 c1 c2 c3 c4 c5 : Option Value} {x : Int32} {t : LS0} {st : List Value} {σ : SH} : exD X 178 45 (c0 :: c1 :: c2 :: c3 :: c4 :: c5 :: some (.int x) :: t) st σ = exD X 178 47 (c0 :: c1 :: c2 :: c3 :: c4 :: c5 :: some (.int x) :: t) (.int x :: st) σ := g_iload_6 rfl
theorem a178_47 {X : SX} {ls : LS0} {st : List Value} {σ : SH} : exD X 178 47 ls st σ = exD X 178 48 ls (.int 1 :: st) σ := g_iconst rfl
theorem a178_48 {X : SX} {ls : LS0} {st : List Value} {σ : SH} {x y : Int32} : exD X 178 48 ls (.int y :: .int x :: st) σ = exD X 178 49 ls (.int (x + y) :: st) σ := g_iadd rfl
theorem a178_49 {X : SX} {c0 c1 c2 c3 c4 c5 c6 c7 : Option Value} {x : Int32} {t : LS0} {st : List Value} {σ : SH} : exD X 178 49 (c0 :: c1 :: c2 :: c3 :: c4 :: c5 :: c6 :: c7 :: t) (.int x :: st) σ = exD X 178 51 (stS 7 (.int x) (c0 :: c1 :: c2 :: c3 :: c4 :: c5 :: c6 :: c7 :: t)) st σ := g_istore_7 rfl
theorem a178_51 {X : SX} {c0 c1 c2 c3 c4 c5 c6 : Option Value} {x : Int32} {t : LS0} {st : List Value} {σ : SH} : exD X 178 51 (c0 :: c1 :: c2 :: c3 :: c4 :: c5 :: c6 :: some (.int x) :: t) st σ = exD X 178 53 (c0 :: c1 :: c2 :: c3 :: c4 :: c5 :: c6 :: some (.int x) :: t) (.int x :: st) σ := g_iload_7 rfl
theorem a178_53 {X : SX} {x : Nat} {t : LS0} {st : List Value} {σ : SH} : exD X 178 53 (some (.ref x) :: t) st σ = exD X 178 54 (some (.ref x) :: t) (.ref x :: st) σ := g_aload_0 rfl
theorem a178_54 {X : SX} {ls : LS0} {st : List Value} {I : Nat → Nat → Int32} {L : Nat → Nat → Int64} {b : Nat} (hb : hk (ms I L) b = some (0, 10)) : exD X 178 54 ls (.ref b :: st) (ms I L) = exD X 178 57 ls (.int (I b 13) :: st) (ms I L) := g_gfI (e := (10, 49, 10, 13)) rfl rfl (by decide +kernel) hb
theorem a178_57 {X : SX} {ls : LS0} {st : List Value} {σ : SH} {x y : Int32} : exD X 178 57 ls (.int y :: .int x :: st) σ = if y ≤ x then exD X 178 139 ls st σ else exD X 178 60 ls st σ := g_if_icmp_ge rfl
theorem a178_60 {X : SX} {x : Nat} {t : LS0} {st : List Value} {σ : SH} : exD X 178 60 (some (.ref x) :: t) st σ = exD X 178 61 (some (.ref x) :: t) (.ref x :: st) σ := g_aload_0 rfl
theorem a178_61 {X : SX} {ls : LS0} {st : List Value} {I : Nat → Nat → Int32} {L : Nat → Nat → Int64} {b : Nat} (hb : hk (ms I L) b = some (0, 10)) : exD X 178 61 ls (.ref b :: st) (ms I L) = gR (PP b 4) (fun q => exD X 178 64 ls (.ref q :: st) (ms I L)) := g_gfR (e := (10, 22, 10, 4)) rfl rfl (by decide +kernel) hb
theorem a178_64 {X : SX} {ls : LS0} {st : List Value} {σ : SH} : exD X 178 64 ls st σ = exD X 178 65 ls (.int 5 :: st) σ := g_iconst rfl
theorem a178_65 {X : SX} {c0 c1 c2 c3 c4 c5 : Option Value} {x : Int32} {t : LS0} {st : List Value} {σ : SH} : exD X 178 65 (c0 :: c1 :: c2 :: c3 :: c4 :: c5 :: some (.int x) :: t) st σ = exD X 178 67 (c0 :: c1 :: c2 :: c3 :: c4 :: c5 :: some (.int x) :: t) (.int x :: st) σ := g_iload_6 rfl
theorem a178_67 {X : SX} {ls : LS0} {st : List Value} {σ : SH} {x y : Int32} : exD X 178 67 ls (.int y :: .int x :: st) σ = exD X 178 68 ls (.int (x * y) :: st) σ := g_imul rfl
theorem a178_68 {X : SX} {c0 c1 c2 c3 c4 c5 c6 : Option Value} {x : Int32} {t : LS0} {st : List Value} {σ : SH} : exD X 178 68 (c0 :: c1 :: c2 :: c3 :: c4 :: c5 :: c6 :: some (.int x) :: t) st σ = exD X 178 70 (c0 :: c1 :: c2 :: c3 :: c4 :: c5 :: c6 :: some (.int x) :: t) (.int x :: st) σ := g_iload_7 rfl
theorem a178_70 {X : SX} {ls : LS0} {st : List Value} {σ : SH} {x y : Int32} : exD X 178 70 ls (.int y :: .int x :: st) σ = exD X 178 71 ls (.int (x + y) :: st) σ := g_iadd rfl
theorem a178_71 {X : SX} {ls : LS0} {st : List Value} {I : Nat → Nat → Int32} {L : Nat → Nat → Int64} {b : Nat} {i : Int32} (hb : b < 4096) : exD X 178 71 ls (.int i :: .ref b :: st) (ms I L) = iaR (hk (ms I L) b) i (exD X 178 72 ls (.int (I b i.toNatClampNeg) :: st) (ms I L)) := g_iald rfl hb
theorem a178_72 {X : SX} {ls : LS0} {st : List Value} {σ : SH} : exD X 178 72 ls st σ = exD X 178 73 ls (.int 1 :: st) σ := g_iconst rfl
theorem a178_73 {X : SX} {ls : LS0} {st : List Value} {σ : SH} {x y : Int32} : exD X 178 73 ls (.int y :: .int x :: st) σ = if x = y then exD X 178 76 ls st σ else exD X 178 79 ls st σ := g_if_icmp_ne rfl
theorem a178_76 {X : SX} {ls : LS0} {st : List Value} {σ : SH} : exD X 178 76 ls st σ = exD X 178 133 ls st σ := g_goto rfl
theorem a178_79 {X : SX} {x : Nat} {t : LS0} {st : List Value} {σ : SH} : exD X 178 79 (some (.ref x) :: t) st σ = exD X 178 80 (some (.ref x) :: t) (.ref x :: st) σ := g_aload_0 rfl
theorem a178_80 {X : SX} {c0 c1 c2 c3 c4 c5 : Option Value} {x : Int32} {t : LS0} {st : List Value} {σ : SH} : exD X 178 80 (c0 :: c1 :: c2 :: c3 :: c4 :: c5 :: some (.int x) :: t) st σ = exD X 178 82 (c0 :: c1 :: c2 :: c3 :: c4 :: c5 :: some (.int x) :: t) (.int x :: st) σ := g_iload_6 rfl
theorem a178_82 {X : SX} {c0 c1 c2 c3 c4 c5 c6 : Option Value} {x : Int32} {t : LS0} {st : List Value} {σ : SH} : exD X 178 82 (c0 :: c1 :: c2 :: c3 :: c4 :: c5 :: c6 :: some (.int x) :: t) st σ = exD X 178 84 (c0 :: c1 :: c2 :: c3 :: c4 :: c5 :: c6 :: some (.int x) :: t) (.int x :: st) σ := g_iload_7 rfl
theorem a178_84 {X : SX} {ls : LS0} {st : List Value} {σ : SH} : exD X 178 84 ls st σ = exD X 178 85 ls (.int 1 :: st) σ := g_iconst rfl
theorem a178_85 {X : SX} {ls : LS0} {st : List Value} {I : Nat → Nat → Int32} {L : Nat → Nat → Int64} {w0 : Int32} {w1 : Int32} {w2 : Int32} {b : Nat} (hb : hk (ms I L) b = some (0, 10)) (h8 : cS st ≤ 8) : exD X 178 85 ls (.int w2 :: .int w1 :: .int w0 :: .ref b :: st) (ms I L) = cR (caD X 139 [.ref b, .int w0, .int w1, .int w2] (ms I L)) (fun w s => exD X 178 88 ls (psh w st) s) := g_cv rfl rfl rfl (Nat.le_of_ble_eq_true rfl) h8 hb
theorem a178_88 {X : SX} {x : Nat} {t : LS0} {st : List Value} {σ : SH} : exD X 178 88 (some (.ref x) :: t) st σ = exD X 178 89 (some (.ref x) :: t) (.ref x :: st) σ := g_aload_0 rfl
theorem a178_89 {X : SX} {c0 : Option Value} {x : Int32} {t : LS0} {st : List Value} {σ : SH} : exD X 178 89 (c0 :: some (.int x) :: t) st σ = exD X 178 90 (c0 :: some (.int x) :: t) (.int x :: st) σ := g_iload_1 rfl
theorem a178_90 {X : SX} {c0 c1 : Option Value} {x : Int32} {t : LS0} {st : List Value} {σ : SH} : exD X 178 90 (c0 :: c1 :: some (.int x) :: t) st σ = exD X 178 91 (c0 :: c1 :: some (.int x) :: t) (.int x :: st) σ := g_iload_2 rfl
theorem a178_91 {X : SX} {ls : LS0} {st : List Value} {σ : SH} : exD X 178 91 ls st σ = exD X 178 93 ls (.int (-9) :: st) σ := g_bipush rfl
theorem a178_93 {X : SX} {ls : LS0} {st : List Value} {σ : SH} : exD X 178 93 ls st σ = exD X 178 95 ls (.int (-9) :: st) σ := g_bipush rfl
theorem a178_95 {X : SX} {ls : LS0} {st : List Value} {I : Nat → Nat → Int32} {L : Nat → Nat → Int64} {w0 : Int32} {w1 : Int32} {w2 : Int32} {w3 : Int32} {b : Nat} (hb : hk (ms I L) b = some (0, 10)) (h8 : cS st ≤ 8) : exD X 178 95 ls (.int w3 :: .int w2 :: .int w1 :: .int w0 :: .ref b :: st) (ms I L) = cR (caD X 165 [.ref b, .int w0, .int w1, .int w2, .int w3] (ms I L)) (fun w s => exD X 178 98 ls (psh w st) s) := g_cv rfl rfl rfl (Nat.le_of_ble_eq_true rfl) h8 hb
theorem a178_98 {X : SX} {c0 c1 c2 c3 c4 c5 c6 c7 c8 : Option Value} {x : Int32} {t : LS0} {st : List Value} {σ : SH} : exD X 178 98 (c0 :: c1 :: c2 :: c3 :: c4 :: c5 :: c6 :: c7 :: c8 :: t) (.int x :: st) σ = exD X 178 100 (stS 8 (.int x) (c0 :: c1 :: c2 :: c3 :: c4 :: c5 :: c6 :: c7 :: c8 :: t)) st σ := g_istore_8 rfl
theorem a178_100 {X : SX} {x : Nat} {t : LS0} {st : List Value} {σ : SH} : exD X 178 100 (some (.ref x) :: t) st σ = exD X 178 101 (some (.ref x) :: t) (.ref x :: st) σ := g_aload_0 rfl
theorem a178_101 {X : SX} {c0 c1 c2 c3 c4 c5 : Option Value} {x : Int32} {t : LS0} {st : List Value} {σ : SH} : exD X 178 101 (c0 :: c1 :: c2 :: c3 :: c4 :: c5 :: some (.int x) :: t) st σ = exD X 178 103 (c0 :: c1 :: c2 :: c3 :: c4 :: c5 :: some (.int x) :: t) (.int x :: st) σ := g_iload_6 rfl
theorem a178_103 {X : SX} {c0 c1 c2 c3 c4 c5 c6 : Option Value} {x : Int32} {t : LS0} {st : List Value} {σ : SH} : exD X 178 103 (c0 :: c1 :: c2 :: c3 :: c4 :: c5 :: c6 :: some (.int x) :: t) st σ = exD X 178 105 (c0 :: c1 :: c2 :: c3 :: c4 :: c5 :: c6 :: some (.int x) :: t) (.int x :: st) σ := g_iload_7 rfl
theorem a178_105 {X : SX} {ls : LS0} {st : List Value} {σ : SH} : exD X 178 105 ls st σ = exD X 178 106 ls (.int 0 :: st) σ := g_iconst rfl
theorem a178_106 {X : SX} {ls : LS0} {st : List Value} {I : Nat → Nat → Int32} {L : Nat → Nat → Int64} {w0 : Int32} {w1 : Int32} {w2 : Int32} {b : Nat} (hb : hk (ms I L) b = some (0, 10)) (h8 : cS st ≤ 8) : exD X 178 106 ls (.int w2 :: .int w1 :: .int w0 :: .ref b :: st) (ms I L) = cR (caD X 139 [.ref b, .int w0, .int w1, .int w2] (ms I L)) (fun w s => exD X 178 109 ls (psh w st) s) := g_cv rfl rfl rfl (Nat.le_of_ble_eq_true rfl) h8 hb
theorem a178_109 {X : SX} {c0 c1 c2 c3 c4 c5 c6 c7 : Option Value} {x : Int32} {t : LS0} {st : List Value} {σ : SH} : exD X 178 109 (c0 :: c1 :: c2 :: c3 :: c4 :: c5 :: c6 :: c7 :: some (.int x) :: t) st σ = exD X 178 111 (c0 :: c1 :: c2 :: c3 :: c4 :: c5 :: c6 :: c7 :: some (.int x) :: t) (.int x :: st) σ := g_iload_8 rfl
theorem a178_111 {X : SX} {c0 c1 c2 c3 c4 : Option Value} {x : Int32} {t : LS0} {st : List Value} {σ : SH} : exD X 178 111 (c0 :: c1 :: c2 :: c3 :: c4 :: some (.int x) :: t) st σ = exD X 178 113 (c0 :: c1 :: c2 :: c3 :: c4 :: some (.int x) :: t) (.int x :: st) σ := g_iload_5 rfl
theorem a178_113 {X : SX} {ls : LS0} {st : List Value} {σ : SH} {x y : Int32} : exD X 178 113 ls (.int y :: .int x :: st) σ = if x < y then exD X 178 119 ls st σ else exD X 178 116 ls st σ := g_if_icmp_lt rfl
theorem a178_116 {X : SX} {ls : LS0} {st : List Value} {σ : SH} : exD X 178 116 ls st σ = exD X 178 133 ls st σ := g_goto rfl
theorem a178_119 {X : SX} {ls : LS0} {st : List Value} {σ : SH} : exD X 178 119 ls st σ = exD X 178 121 ls (.int 10 :: st) σ := g_bipush rfl
theorem a178_121 {X : SX} {c0 c1 c2 c3 c4 c5 : Option Value} {x : Int32} {t : LS0} {st : List Value} {σ : SH} : exD X 178 121 (c0 :: c1 :: c2 :: c3 :: c4 :: c5 :: some (.int x) :: t) st σ = exD X 178 123 (c0 :: c1 :: c2 :: c3 :: c4 :: c5 :: some (.int x) :: t) (.int x :: st) σ := g_iload_6 rfl
theorem a178_123 {X : SX} {ls : LS0} {st : List Value} {σ : SH} {x y : Int32} : exD X 178 123 ls (.int y :: .int x :: st) σ = exD X 178 124 ls (.int (x * y) :: st) σ := g_imul rfl
theorem a178_124 {X : SX} {c0 c1 c2 c3 c4 c5 c6 : Option Value} {x : Int32} {t : LS0} {st : List Value} {σ : SH} : exD X 178 124 (c0 :: c1 :: c2 :: c3 :: c4 :: c5 :: c6 :: some (.int x) :: t) st σ = exD X 178 126 (c0 :: c1 :: c2 :: c3 :: c4 :: c5 :: c6 :: some (.int x) :: t) (.int x :: st) σ := g_iload_7 rfl
theorem a178_126 {X : SX} {ls : LS0} {st : List Value} {σ : SH} {x y : Int32} : exD X 178 126 ls (.int y :: .int x :: st) σ = exD X 178 127 ls (.int (x + y) :: st) σ := g_iadd rfl
theorem a178_127 {X : SX} {c0 c1 c2 c3 c4 : Option Value} {x : Int32} {t : LS0} {st : List Value} {σ : SH} : exD X 178 127 (c0 :: c1 :: c2 :: c3 :: c4 :: t) (.int x :: st) σ = exD X 178 129 (stS 4 (.int x) (c0 :: c1 :: c2 :: c3 :: c4 :: t)) st σ := g_istore_4 rfl
theorem a178_129 {X : SX} {c0 c1 c2 c3 c4 c5 c6 c7 : Option Value} {x : Int32} {t : LS0} {st : List Value} {σ : SH} : exD X 178 129 (c0 :: c1 :: c2 :: c3 :: c4 :: c5 :: c6 :: c7 :: some (.int x) :: t) st σ = exD X 178 131 (c0 :: c1 :: c2 :: c3 :: c4 :: c5 :: c6 :: c7 :: some (.int x) :: t) (.int x :: st) σ := g_iload_8 rfl
theorem a178_131 {X : SX} {c0 c1 c2 c3 c4 c5 : Option Value} {x : Int32} {t : LS0} {st : List Value} {σ : SH} : exD X 178 131 (c0 :: c1 :: c2 :: c3 :: c4 :: c5 :: t) (.int x :: st) σ = exD X 178 133 (stS 5 (.int x) (c0 :: c1 :: c2 :: c3 :: c4 :: c5 :: t)) st σ := g_istore_5 rfl
theorem a178_133 {X : SX} {c0 c1 c2 c3 c4 c5 c6 : Option Value} {x : Int32} {t : LS0} {st : List Value} {σ : SH} : exD X 178 133 (c0 :: c1 :: c2 :: c3 :: c4 :: c5 :: c6 :: some (.int x) :: t) st σ = exD X 178 136 (stS 7 (.int (x + 1)) (c0 :: c1 :: c2 :: c3 :: c4 :: c5 :: c6 :: some (.int x) :: t)) st σ := g_iinc_7 rfl
theorem a178_136 {X : SX} {ls : LS0} {st : List Value} {σ : SH} : exD X 178 136 ls st σ = exD X 178 51 ls st σ := g_goto rfl
theorem a178_139 {X : SX} {c0 c1 c2 c3 c4 c5 : Option Value} {x : Int32} {t : LS0} {st : List Value} {σ : SH} : exD X 178 139 (c0 :: c1 :: c2 :: c3 :: c4 :: c5 :: some (.int x) :: t) st σ = exD X 178 142 (stS 6 (.int (x + 1)) (c0 :: c1 :: c2 :: c3 :: c4 :: c5 :: some (.int x) :: t)) st σ := g_iinc_6 rfl
theorem a178_142 {X : SX} {ls : LS0} {st : List Value} {σ : SH} : exD X 178 142 ls st σ = exD X 178 36 ls st σ := g_goto rfl
theorem a178_145 {X : SX} {c0 c1 c2 c3 : Option Value} {x : Int32} {t : LS0} {st : List Value} {σ : SH} : exD X 178 145 (c0 :: c1 :: c2 :: c3 :: some (.int x) :: t) st σ = exD X 178 147 (c0 :: c1 :: c2 :: c3 :: some (.int x) :: t) (.int x :: st) σ := g_iload_4 rfl
theorem a178_147 {X : SX} {ls : LS0} {σ : SH} {x : Int32} : exD X 178 147 ls [.int x] σ = some (some (.int x), σ) := g_iret rfl rfl
theorem a179_0 {X : SX} {x : Nat} {t : LS0} {st : List Value} {σ : SH} : exD X 179 0 (some (.ref x) :: t) st σ = exD X 179 1 (some (.ref x) :: t) (.ref x :: st) σ := g_aload_0 rfl
theorem a179_1 {X : SX} {c0 : Option Value} {x : Int32} {t : LS0} {st : List Value} {σ : SH} : exD X 179 1 (c0 :: some (.int x) :: t) st σ = exD X 179 2 (c0 :: some (.int x) :: t) (.int x :: st) σ := g_iload_1 rfl
theorem a179_2 {X : SX} {ls : LS0} {st : List Value} {I : Nat → Nat → Int32} {L : Nat → Nat → Int64} {w0 : Int32} {b : Nat} (hb : hk (ms I L) b = some (0, 10)) (h8 : cS st ≤ 8) : exD X 179 2 ls (.int w0 :: .ref b :: st) (ms I L) = cR (caD X 126 [.ref b, .int w0] (ms I L)) (fun w s => exD X 179 5 ls (psh w st) s) := g_cv rfl rfl rfl (Nat.le_of_ble_eq_true rfl) h8 hb
theorem a179_5 {X : SX} {ls : LS0} {st : List Value} {σ : SH} {x : Int32} : exD X 179 5 ls (.int x :: st) σ = if x = 0 then exD X 179 8 ls st σ else exD X 179 20 ls st σ := g_ifCond_ne rfl
theorem a179_8 {X : SX} {c0 : Option Value} {x : Int32} {t : LS0} {st : List Value} {σ : SH} : exD X 179 8 (c0 :: some (.int x) :: t) st σ = exD X 179 9 (c0 :: some (.int x) :: t) (.int x :: st) σ := g_iload_1 rfl
theorem a179_9 {X : SX} {ls : LS0} {st : List Value} {σ : SH} : exD X 179 9 ls st σ = exD X 179 11 ls (.int 9 :: st) σ := g_bipush rfl
theorem a179_11 {X : SX} {ls : LS0} {st : List Value} {σ : SH} {x y : Int32} : exD X 179 11 ls (.int y :: .int x :: st) σ = if x = y then exD X 179 20 ls st σ else exD X 179 14 ls st σ := g_if_icmp_eq rfl
theorem a179_14 {X : SX} {x : Nat} {t : LS0} {st : List Value} {σ : SH} : exD X 179 14 (some (.ref x) :: t) st σ = exD X 179 15 (some (.ref x) :: t) (.ref x :: st) σ := g_aload_0 rfl
theorem a179_15 {X : SX} {ls : LS0} {st : List Value} {σ : SH} : exD X 179 15 ls st σ = exD X 179 16 ls (.int (-1) :: st) σ := g_iconst rfl
theorem a179_16 {X : SX} {ls : LS0} {st : List Value} {I : Nat → Nat → Int32} {L : Nat → Nat → Int64} {w0 : Int32} {b : Nat} (hb : hk (ms I L) b = some (0, 10)) (h8 : cS st ≤ 8) : exD X 179 16 ls (.int w0 :: .ref b :: st) (ms I L) = cR (caD X 121 [.ref b, .int w0] (ms I L)) (fun w s => exD X 179 19 ls (psh w st) s) := g_cv rfl rfl rfl (Nat.le_of_ble_eq_true rfl) h8 hb
theorem a179_19 {X : SX} {ls : LS0} {σ : SH} {x : Int32} : exD X 179 19 ls [.int x] σ = some (some (.int x), σ) := g_iret rfl rfl
theorem a179_20 {X : SX} {x : Nat} {t : LS0} {st : List Value} {σ : SH} : exD X 179 20 (some (.ref x) :: t) st σ = exD X 179 21 (some (.ref x) :: t) (.ref x :: st) σ := g_aload_0 rfl
theorem a179_21 {X : SX} {ls : LS0} {st : List Value} {I : Nat → Nat → Int32} {L : Nat → Nat → Int64} {b : Nat} (hb : hk (ms I L) b = some (0, 10)) : exD X 179 21 ls (.ref b :: st) (ms I L) = exD X 179 24 ls (.int (I b 37) :: st) (ms I L) := g_gfI (e := (10, 249, 10, 37)) rfl rfl (by decide +kernel) hb
theorem a179_24 {X : SX} {ls : LS0} {st : List Value} {σ : SH} : exD X 179 24 ls st σ = exD X 179 26 ls (.int 8 :: st) σ := g_bipush rfl
theorem a179_26 {X : SX} {ls : LS0} {st : List Value} {σ : SH} {x y : Int32} : exD X 179 26 ls (.int y :: .int x :: st) σ = if x = y then exD X 179 29 ls st σ else exD X 179 36 ls st σ := g_if_icmp_ne rfl
theorem a179_29 {X : SX} {x : Nat} {t : LS0} {st : List Value} {σ : SH} : exD X 179 29 (some (.ref x) :: t) st σ = exD X 179 30 (some (.ref x) :: t) (.ref x :: st) σ := g_aload_0 rfl
theorem a179_30 {X : SX} {ls : LS0} {st : List Value} {σ : SH} : exD X 179 30 ls st σ = exD X 179 32 ls (.int (-6) :: st) σ := g_bipush rfl
theorem a179_32 {X : SX} {ls : LS0} {st : List Value} {I : Nat → Nat → Int32} {L : Nat → Nat → Int64} {w0 : Int32} {b : Nat} (hb : hk (ms I L) b = some (0, 10)) (h8 : cS st ≤ 8) : exD X 179 32 ls (.int w0 :: .ref b :: st) (ms I L) = cR (caD X 121 [.ref b, .int w0] (ms I L)) (fun w s => exD X 179 35 ls (psh w st) s) := g_cv rfl rfl rfl (Nat.le_of_ble_eq_true rfl) h8 hb
theorem a179_35 {X : SX} {ls : LS0} {σ : SH} {x : Int32} : exD X 179 35 ls [.int x] σ = some (some (.int x), σ) := g_iret rfl rfl
theorem a179_36 {X : SX} {x : Nat} {t : LS0} {st : List Value} {σ : SH} : exD X 179 36 (some (.ref x) :: t) st σ = exD X 179 37 (some (.ref x) :: t) (.ref x :: st) σ := g_aload_0 rfl
theorem a179_37 {X : SX} {ls : LS0} {st : List Value} {I : Nat → Nat → Int32} {L : Nat → Nat → Int64} {b : Nat} (hb : hk (ms I L) b = some (0, 10)) : exD X 179 37 ls (.ref b :: st) (ms I L) = gR (PP b 35) (fun q => exD X 179 40 ls (.ref q :: st) (ms I L)) := g_gfR (e := (10, 83, 10, 35)) rfl rfl (by decide +kernel) hb
theorem a179_40 {X : SX} {x : Nat} {t : LS0} {st : List Value} {σ : SH} : exD X 179 40 (some (.ref x) :: t) st σ = exD X 179 41 (some (.ref x) :: t) (.ref x :: st) σ := g_aload_0 rfl
theorem a179_41 {X : SX} {ls : LS0} {st : List Value} {I : Nat → Nat → Int32} {L : Nat → Nat → Int64} {b : Nat} (hb : hk (ms I L) b = some (0, 10)) : exD X 179 41 ls (.ref b :: st) (ms I L) = exD X 179 44 ls (.int (I b 37) :: st) (ms I L) := g_gfI (e := (10, 249, 10, 37)) rfl rfl (by decide +kernel) hb
theorem a179_44 {X : SX} {c0 : Option Value} {x : Int32} {t : LS0} {st : List Value} {σ : SH} : exD X 179 44 (c0 :: some (.int x) :: t) st σ = exD X 179 45 (c0 :: some (.int x) :: t) (.int x :: st) σ := g_iload_1 rfl
theorem a179_45 {X : SX} {ls : LS0} {st : List Value} {I : Nat → Nat → Int32} {L : Nat → Nat → Int64} {b : Nat} {i x : Int32} : exD X 179 45 ls (.int x :: .int i :: .ref b :: st) (ms I L) = iaR (hk (ms I L) b) i (exD X 179 46 ls st (ms (u2 I b i.toNatClampNeg x) L)) := g_iast rfl
theorem a179_46 {X : SX} {x : Nat} {t : LS0} {st : List Value} {σ : SH} : exD X 179 46 (some (.ref x) :: t) st σ = exD X 179 47 (some (.ref x) :: t) (.ref x :: st) σ := g_aload_0 rfl
theorem a179_47 {X : SX} {ls : LS0} {st : List Value} {σ : SH} {x : Int32} : exD X 179 47 ls (.int x :: st) σ = exD X 179 48 ls (.int x :: .int x :: st) σ := g_dup_i rfl
theorem a179_47r {X : SX} {ls : LS0} {st : List Value} {σ : SH} {x : Nat} : exD X 179 47 ls (.ref x :: st) σ = exD X 179 48 ls (.ref x :: .ref x :: st) σ := g_dup_r rfl
theorem a179_48 {X : SX} {ls : LS0} {st : List Value} {I : Nat → Nat → Int32} {L : Nat → Nat → Int64} {b : Nat} (hb : hk (ms I L) b = some (0, 10)) : exD X 179 48 ls (.ref b :: st) (ms I L) = exD X 179 51 ls (.int (I b 37) :: st) (ms I L) := g_gfI (e := (10, 249, 10, 37)) rfl rfl (by decide +kernel) hb
theorem a179_51 {X : SX} {ls : LS0} {st : List Value} {σ : SH} : exD X 179 51 ls st σ = exD X 179 52 ls (.int 1 :: st) σ := g_iconst rfl
theorem a179_52 {X : SX} {ls : LS0} {st : List Value} {σ : SH} {x y : Int32} : exD X 179 52 ls (.int y :: .int x :: st) σ = exD X 179 53 ls (.int (x + y) :: st) σ := g_iadd rfl
theorem a179_53 {X : SX} {ls : LS0} {st : List Value} {I : Nat → Nat → Int32} {L : Nat → Nat → Int64} {b : Nat} {x : Int32} (hb : hk (ms I L) b = some (0, 10)) : exD X 179 53 ls (.int x :: .ref b :: st) (ms I L) = exD X 179 56 ls st (ms (u2 I b 37 x) L) := g_pfI (e := (10, 249, 10, 37)) rfl rfl (by decide +kernel) hb
theorem a179_56 {X : SX} {x : Nat} {t : LS0} {st : List Value} {σ : SH} : exD X 179 56 (some (.ref x) :: t) st σ = exD X 179 57 (some (.ref x) :: t) (.ref x :: st) σ := g_aload_0 rfl
theorem a179_57 {X : SX} {ls : LS0} {st : List Value} {I : Nat → Nat → Int32} {L : Nat → Nat → Int64} {b : Nat} (hb : hk (ms I L) b = some (0, 10)) : exD X 179 57 ls (.ref b :: st) (ms I L) = exD X 179 60 ls (.int (I b 37) :: st) (ms I L) := g_gfI (e := (10, 249, 10, 37)) rfl rfl (by decide +kernel) hb
theorem a179_60 {X : SX} {ls : LS0} {σ : SH} {x : Int32} : exD X 179 60 ls [.int x] σ = some (some (.int x), σ) := g_iret rfl rfl
theorem a180_0 {X : SX} {x : Nat} {t : LS0} {st : List Value} {σ : SH} : exD X 180 0 (some (.ref x) :: t) st σ = exD X 180 1 (some (.ref x) :: t) (.ref x :: st) σ := g_aload_0 rfl
theorem a180_1 {X : SX} {ls : LS0} {st : List Value} {I : Nat → Nat → Int32} {L : Nat → Nat → Int64} {b : Nat} (hb : hk (ms I L) b = some (0, 10)) : exD X 180 1 ls (.ref b :: st) (ms I L) = exD X 180 4 ls (.int (I b 37) :: st) (ms I L) := g_gfI (e := (10, 249, 10, 37)) rfl rfl (by decide +kernel) hb
theorem a180_4 {X : SX} {c0 c1 : Option Value} {x : Int32} {t : LS0} {st : List Value} {σ : SH} : exD X 180 4 (c0 :: c1 :: t) (.int x :: st) σ = exD X 180 5 (stS 1 (.int x) (c0 :: c1 :: t)) st σ := g_istore_1 rfl
theorem a180_5 {X : SX} {x : Nat} {t : LS0} {st : List Value} {σ : SH} : exD X 180 5 (some (.ref x) :: t) st σ = exD X 180 6 (some (.ref x) :: t) (.ref x :: st) σ := g_aload_0 rfl
theorem a180_6 {X : SX} {ls : LS0} {st : List Value} {σ : SH} : exD X 180 6 ls st σ = exD X 180 7 ls (.int 0 :: st) σ := g_iconst rfl
theorem a180_7 {X : SX} {ls : LS0} {st : List Value} {I : Nat → Nat → Int32} {L : Nat → Nat → Int64} {b : Nat} {x : Int32} (hb : hk (ms I L) b = some (0, 10)) : exD X 180 7 ls (.int x :: .ref b :: st) (ms I L) = exD X 180 10 ls st (ms (u2 I b 37 x) L) := g_pfI (e := (10, 249, 10, 37)) rfl rfl (by decide +kernel) hb
theorem a180_10 {X : SX} {c0 : Option Value} {x : Int32} {t : LS0} {st : List Value} {σ : SH} : exD X 180 10 (c0 :: some (.int x) :: t) st σ = exD X 180 11 (c0 :: some (.int x) :: t) (.int x :: st) σ := g_iload_1 rfl
theorem a180_11 {X : SX} {ls : LS0} {σ : SH} {x : Int32} : exD X 180 11 ls [.int x] σ = some (some (.int x), σ) := g_iret rfl rfl
theorem a181_0 {X : SX} {x : Nat} {t : LS0} {st : List Value} {σ : SH} : exD X 181 0 (some (.ref x) :: t) st σ = exD X 181 1 (some (.ref x) :: t) (.ref x :: st) σ := g_aload_0 rfl
theorem a181_1 {X : SX} {x : Nat} {t : LS0} {st : List Value} {σ : SH} : exD X 181 1 (some (.ref x) :: t) st σ = exD X 181 2 (some (.ref x) :: t) (.ref x :: st) σ := g_aload_0 rfl
theorem a181_2 {X : SX} {ls : LS0} {st : List Value} {I : Nat → Nat → Int32} {L : Nat → Nat → Int64} {b : Nat} (hb : hk (ms I L) b = some (0, 10)) : exD X 181 2 ls (.ref b :: st) (ms I L) = exD X 181 5 ls (.int (I b 37) :: st) (ms I L) := g_gfI (e := (10, 249, 10, 37)) rfl rfl (by decide +kernel) hb
theorem a181_5 {X : SX} {ls : LS0} {st : List Value} {I : Nat → Nat → Int32} {L : Nat → Nat → Int64} {b : Nat} {x : Int32} (hb : hk (ms I L) b = some (0, 10)) : exD X 181 5 ls (.int x :: .ref b :: st) (ms I L) = exD X 181 8 ls st (ms (u2 I b 38 x) L) := g_pfI (e := (10, 252, 10, 38)) rfl rfl (by decide +kernel) hb
theorem a181_8 {X : SX} {ls : LS0} {st : List Value} {σ : SH} : exD X 181 8 ls st σ = exD X 181 9 ls (.int 0 :: st) σ := g_iconst rfl
theorem a181_9 {X : SX} {c0 c1 : Option Value} {x : Int32} {t : LS0} {st : List Value} {σ : SH} : exD X 181 9 (c0 :: c1 :: t) (.int x :: st) σ = exD X 181 10 (stS 1 (.int x) (c0 :: c1 :: t)) st σ := g_istore_1 rfl
theorem a181_10 {X : SX} {c0 : Option Value} {x : Int32} {t : LS0} {st : List Value} {σ : SH} : exD X 181 10 (c0 :: some (.int x) :: t) st σ = exD X 181 11 (c0 :: some (.int x) :: t) (.int x :: st) σ := g_iload_1 rfl
theorem a181_11 {X : SX} {x : Nat} {t : LS0} {st : List Value} {σ : SH} : exD X 181 11 (some (.ref x) :: t) st σ = exD X 181 12 (some (.ref x) :: t) (.ref x :: st) σ := g_aload_0 rfl
theorem a181_12 {X : SX} {ls : LS0} {st : List Value} {I : Nat → Nat → Int32} {L : Nat → Nat → Int64} {b : Nat} (hb : hk (ms I L) b = some (0, 10)) : exD X 181 12 ls (.ref b :: st) (ms I L) = exD X 181 15 ls (.int (I b 37) :: st) (ms I L) := g_gfI (e := (10, 249, 10, 37)) rfl rfl (by decide +kernel) hb
theorem a181_15 {X : SX} {ls : LS0} {st : List Value} {σ : SH} {x y : Int32} : exD X 181 15 ls (.int y :: .int x :: st) σ = if y ≤ x then exD X 181 36 ls st σ else exD X 181 18 ls st σ := g_if_icmp_ge rfl
theorem a181_18 {X : SX} {x : Nat} {t : LS0} {st : List Value} {σ : SH} : exD X 181 18 (some (.ref x) :: t) st σ = exD X 181 19 (some (.ref x) :: t) (.ref x :: st) σ := g_aload_0 rfl
theorem a181_19 {X : SX} {ls : LS0} {st : List Value} {I : Nat → Nat → Int32} {L : Nat → Nat → Int64} {b : Nat} (hb : hk (ms I L) b = some (0, 10)) : exD X 181 19 ls (.ref b :: st) (ms I L) = gR (PP b 36) (fun q => exD X 181 22 ls (.ref q :: st) (ms I L)) := g_gfR (e := (10, 86, 10, 36)) rfl rfl (by decide +kernel) hb
theorem a181_22 {X : SX} {c0 : Option Value} {x : Int32} {t : LS0} {st : List Value} {σ : SH} : exD X 181 22 (c0 :: some (.int x) :: t) st σ = exD X 181 23 (c0 :: some (.int x) :: t) (.int x :: st) σ := g_iload_1 rfl
theorem a181_23 {X : SX} {x : Nat} {t : LS0} {st : List Value} {σ : SH} : exD X 181 23 (some (.ref x) :: t) st σ = exD X 181 24 (some (.ref x) :: t) (.ref x :: st) σ := g_aload_0 rfl
theorem a181_24 {X : SX} {ls : LS0} {st : List Value} {I : Nat → Nat → Int32} {L : Nat → Nat → Int64} {b : Nat} (hb : hk (ms I L) b = some (0, 10)) : exD X 181 24 ls (.ref b :: st) (ms I L) = gR (PP b 35) (fun q => exD X 181 27 ls (.ref q :: st) (ms I L)) := g_gfR (e := (10, 83, 10, 35)) rfl rfl (by decide +kernel) hb
theorem a181_27 {X : SX} {c0 : Option Value} {x : Int32} {t : LS0} {st : List Value} {σ : SH} : exD X 181 27 (c0 :: some (.int x) :: t) st σ = exD X 181 28 (c0 :: some (.int x) :: t) (.int x :: st) σ := g_iload_1 rfl
theorem a181_28 {X : SX} {ls : LS0} {st : List Value} {I : Nat → Nat → Int32} {L : Nat → Nat → Int64} {b : Nat} {i : Int32} (hb : b < 4096) : exD X 181 28 ls (.int i :: .ref b :: st) (ms I L) = iaR (hk (ms I L) b) i (exD X 181 29 ls (.int (I b i.toNatClampNeg) :: st) (ms I L)) := g_iald rfl hb
theorem a181_29 {X : SX} {ls : LS0} {st : List Value} {I : Nat → Nat → Int32} {L : Nat → Nat → Int64} {b : Nat} {i x : Int32} : exD X 181 29 ls (.int x :: .int i :: .ref b :: st) (ms I L) = iaR (hk (ms I L) b) i (exD X 181 30 ls st (ms (u2 I b i.toNatClampNeg x) L)) := g_iast rfl
theorem a181_30 {X : SX} {c0 : Option Value} {x : Int32} {t : LS0} {st : List Value} {σ : SH} : exD X 181 30 (c0 :: some (.int x) :: t) st σ = exD X 181 33 (stS 1 (.int (x + 1)) (c0 :: some (.int x) :: t)) st σ := g_iinc_1 rfl
theorem a181_33 {X : SX} {ls : LS0} {st : List Value} {σ : SH} : exD X 181 33 ls st σ = exD X 181 10 ls st σ := g_goto rfl
theorem a181_36 {X : SX} {ls : LS0} {σ : SH} : exD X 181 36 ls [] σ = some (none, σ) := g_vret rfl rfl
theorem a182_0 {X : SX} {ls : LS0} {st : List Value} {σ : SH} : exD X 182 0 ls st σ = exD X 182 1 ls (.int 0 :: st) σ := g_iconst rfl
theorem a182_1 {X : SX} {c0 c1 c2 c3 : Option Value} {x : Int32} {t : LS0} {st : List Value} {σ : SH} : exD X 182 1 (c0 :: c1 :: c2 :: c3 :: t) (.int x :: st) σ = exD X 182 2 (stS 3 (.int x) (c0 :: c1 :: c2 :: c3 :: t)) st σ := g_istore_3 rfl
theorem a182_2 {X : SX} {ls : LS0} {st : List Value} {σ : SH} : exD X 182 2 ls st σ = exD X 182 3 ls (.int 0 :: st) σ := g_iconst rfl
theorem a182_3 {X : SX} {c0 c1 c2 c3 c4 : Option Value} {x : Int32} {t : LS0} {st : List Value} {σ : SH} : exD X 182 3 (c0 :: c1 :: c2 :: c3 :: c4 :: t) (.int x :: st) σ = exD X 182 5 (stS 4 (.int x) (c0 :: c1 :: c2 :: c3 :: c4 :: t)) st σ := g_istore_4 rfl
theorem a182_5 {X : SX} {ls : LS0} {st : List Value} {σ : SH} : exD X 182 5 ls st σ = exD X 182 6 ls (.int 0 :: st) σ := g_iconst rfl
theorem a182_6 {X : SX} {c0 c1 c2 c3 c4 c5 : Option Value} {x : Int32} {t : LS0} {st : List Value} {σ : SH} : exD X 182 6 (c0 :: c1 :: c2 :: c3 :: c4 :: c5 :: t) (.int x :: st) σ = exD X 182 8 (stS 5 (.int x) (c0 :: c1 :: c2 :: c3 :: c4 :: c5 :: t)) st σ := g_istore_5 rfl
theorem a182_8 {X : SX} {c0 c1 c2 c3 c4 : Option Value} {x : Int32} {t : LS0} {st : List Value} {σ : SH} : exD X 182 8 (c0 :: c1 :: c2 :: c3 :: c4 :: some (.int x) :: t) st σ = exD X 182 10 (c0 :: c1 :: c2 :: c3 :: c4 :: some (.int x) :: t) (.int x :: st) σ := g_iload_5 rfl
theorem a182_10 {X : SX} {x : Nat} {t : LS0} {st : List Value} {σ : SH} : exD X 182 10 (some (.ref x) :: t) st σ = exD X 182 11 (some (.ref x) :: t) (.ref x :: st) σ := g_aload_0 rfl
theorem a182_11 {X : SX} {ls : LS0} {st : List Value} {I : Nat → Nat → Int32} {L : Nat → Nat → Int64} {b : Nat} (hb : hk (ms I L) b = some (0, 10)) : exD X 182 11 ls (.ref b :: st) (ms I L) = exD X 182 14 ls (.int (I b 38) :: st) (ms I L) := g_gfI (e := (10, 252, 10, 38)) rfl rfl (by decide +kernel) hb
theorem a182_14 {X : SX} {ls : LS0} {st : List Value} {σ : SH} {x y : Int32} : exD X 182 14 ls (.int y :: .int x :: st) σ = if y ≤ x then exD X 182 81 ls st σ else exD X 182 17 ls st σ := g_if_icmp_ge rfl
theorem a182_17 {X : SX} {c0 c1 c2 c3 c4 : Option Value} {x : Int32} {t : LS0} {st : List Value} {σ : SH} : exD X 182 17 (c0 :: c1 :: c2 :: c3 :: c4 :: some (.int x) :: t) st σ = exD X 182 19 (c0 :: c1 :: c2 :: c3 :: c4 :: some (.int x) :: t) (.int x :: st) σ := g_iload_5 rfl
theorem a182_19 {X : SX} {ls : LS0} {st : List Value} {σ : SH} {x : Int32} : exD X 182 19 ls (.int x :: st) σ = if x ≤ 0 then exD X 182 31 ls st σ else exD X 182 22 ls st σ := g_ifCond_le rfl
theorem a182_22 {X : SX} {x : Nat} {t : LS0} {st : List Value} {σ : SH} : exD X 182 22 (some (.ref x) :: t) st σ = exD X 182 23 (some (.ref x) :: t) (.ref x :: st) σ := g_aload_0 rfl
theorem a182_23 {X : SX} {ls : LS0} {st : List Value} {σ : SH} : exD X 182 23 ls st σ = exD X 182 25 ls (.int (-9) :: st) σ := g_bipush rfl
theorem a182_25 {X : SX} {ls : LS0} {st : List Value} {σ : SH} : exD X 182 25 ls st σ = exD X 182 27 ls (.int (-9) :: st) σ := g_bipush rfl
theorem a182_27 {X : SX} {c0 c1 : Option Value} {x : Int32} {t : LS0} {st : List Value} {σ : SH} : exD X 182 27 (c0 :: c1 :: some (.int x) :: t) st σ = exD X 182 28 (c0 :: c1 :: some (.int x) :: t) (.int x :: st) σ := g_iload_2 rfl
theorem a182_28 {X : SX} {ls : LS0} {st : List Value} {I : Nat → Nat → Int32} {L : Nat → Nat → Int64} {w0 : Int32} {w1 : Int32} {w2 : Int32} {b : Nat} (hb : hk (ms I L) b = some (0, 10)) (h8 : cS st ≤ 8) : exD X 182 28 ls (.int w2 :: .int w1 :: .int w0 :: .ref b :: st) (ms I L) = cR (caD X 149 [.ref b, .int w0, .int w1, .int w2] (ms I L)) (fun w s => exD X 182 31 ls (psh w st) s) := g_cv rfl rfl rfl (Nat.le_of_ble_eq_true rfl) h8 hb
theorem a182_31 {X : SX} {x : Nat} {t : LS0} {st : List Value} {σ : SH} : exD X 182 31 (some (.ref x) :: t) st σ = exD X 182 32 (some (.ref x) :: t) (.ref x :: st) σ := g_aload_0 rfl
theorem a182_32 {X : SX} {ls : LS0} {st : List Value} {I : Nat → Nat → Int32} {L : Nat → Nat → Int64} {b : Nat} (hb : hk (ms I L) b = some (0, 10)) : exD X 182 32 ls (.ref b :: st) (ms I L) = gR (PP b 36) (fun q => exD X 182 35 ls (.ref q :: st) (ms I L)) := g_gfR (e := (10, 86, 10, 36)) rfl rfl (by decide +kernel) hb
theorem a182_35 {X : SX} {c0 c1 c2 c3 c4 : Option Value} {x : Int32} {t : LS0} {st : List Value} {σ : SH} : exD X 182 35 (c0 :: c1 :: c2 :: c3 :: c4 :: some (.int x) :: t) st σ = exD X 182 37 (c0 :: c1 :: c2 :: c3 :: c4 :: some (.int x) :: t) (.int x :: st) σ := g_iload_5 rfl
theorem a182_37 {X : SX} {ls : LS0} {st : List Value} {I : Nat → Nat → Int32} {L : Nat → Nat → Int64} {b : Nat} {i : Int32} (hb : b < 4096) : exD X 182 37 ls (.int i :: .ref b :: st) (ms I L) = iaR (hk (ms I L) b) i (exD X 182 38 ls (.int (I b i.toNatClampNeg) :: st) (ms I L)) := g_iald rfl hb
theorem a182_38 {X : SX} {ls : LS0} {st : List Value} {σ : SH} : exD X 182 38 ls st σ = exD X 182 40 ls (.int 9 :: st) σ := g_bipush rfl
theorem a182_40 {X : SX} {ls : LS0} {st : List Value} {σ : SH} {x y : Int32} : exD X 182 40 ls (.int y :: .int x :: st) σ = if x = y then exD X 182 43 ls st σ else exD X 182 51 ls st σ := g_if_icmp_ne rfl
theorem a182_43 {X : SX} {x : Nat} {t : LS0} {st : List Value} {σ : SH} : exD X 182 43 (some (.ref x) :: t) st σ = exD X 182 44 (some (.ref x) :: t) (.ref x :: st) σ := g_aload_0 rfl
theorem a182_44 {X : SX} {c0 : Option Value} {x : Int32} {t : LS0} {st : List Value} {σ : SH} : exD X 182 44 (c0 :: some (.int x) :: t) st σ = exD X 182 45 (c0 :: some (.int x) :: t) (.int x :: st) σ := g_iload_1 rfl
theorem a182_45 {X : SX} {ls : LS0} {st : List Value} {I : Nat → Nat → Int32} {L : Nat → Nat → Int64} {w0 : Int32} {b : Nat} (hb : hk (ms I L) b = some (0, 10)) (h8 : cS st ≤ 8) : exD X 182 45 ls (.int w0 :: .ref b :: st) (ms I L) = cR (caD X 163 [.ref b, .int w0] (ms I L)) (fun w s => exD X 182 48 ls (psh w st) s) := g_cv rfl rfl rfl (Nat.le_of_ble_eq_true rfl) h8 hb
theorem a182_48 {X : SX} {ls : LS0} {st : List Value} {σ : SH} : exD X 182 48 ls st σ = exD X 182 75 ls st σ := g_goto rfl
theorem a182_51 {X : SX} {x : Nat} {t : LS0} {st : List Value} {σ : SH} : exD X 182 51 (some (.ref x) :: t) st σ = exD X 182 52 (some (.ref x) :: t) (.ref x :: st) σ := g_aload_0 rfl
theorem a182_52 {X : SX} {c0 : Option Value} {x : Int32} {t : LS0} {st : List Value} {σ : SH} : exD X 182 52 (c0 :: some (.int x) :: t) st σ = exD X 182 53 (c0 :: some (.int x) :: t) (.int x :: st) σ := g_iload_1 rfl
theorem a182_53 {X : SX} {x : Nat} {t : LS0} {st : List Value} {σ : SH} : exD X 182 53 (some (.ref x) :: t) st σ = exD X 182 54 (some (.ref x) :: t) (.ref x :: st) σ := g_aload_0 rfl
theorem a182_54 {X : SX} {ls : LS0} {st : List Value} {I : Nat → Nat → Int32} {L : Nat → Nat → Int64} {b : Nat} (hb : hk (ms I L) b = some (0, 10)) : exD X 182 54 ls (.ref b :: st) (ms I L) = gR (PP b 36) (fun q => exD X 182 57 ls (.ref q :: st) (ms I L)) := g_gfR (e := (10, 86, 10, 36)) rfl rfl (by decide +kernel) hb
theorem a182_57 {X : SX} {c0 c1 c2 c3 c4 : Option Value} {x : Int32} {t : LS0} {st : List Value} {σ : SH} : exD X 182 57 (c0 :: c1 :: c2 :: c3 :: c4 :: some (.int x) :: t) st σ = exD X 182 59 (c0 :: c1 :: c2 :: c3 :: c4 :: some (.int x) :: t) (.int x :: st) σ := g_iload_5 rfl
theorem a182_59 {X : SX} {ls : LS0} {st : List Value} {I : Nat → Nat → Int32} {L : Nat → Nat → Int64} {b : Nat} {i : Int32} (hb : b < 4096) : exD X 182 59 ls (.int i :: .ref b :: st) (ms I L) = iaR (hk (ms I L) b) i (exD X 182 60 ls (.int (I b i.toNatClampNeg) :: st) (ms I L)) := g_iald rfl hb
theorem a182_60 {X : SX} {c0 c1 c2 c3 : Option Value} {x : Int32} {t : LS0} {st : List Value} {σ : SH} : exD X 182 60 (c0 :: c1 :: c2 :: c3 :: some (.int x) :: t) st σ = exD X 182 62 (c0 :: c1 :: c2 :: c3 :: some (.int x) :: t) (.int x :: st) σ := g_iload_4 rfl
theorem a182_62 {X : SX} {ls : LS0} {st : List Value} {I : Nat → Nat → Int32} {L : Nat → Nat → Int64} {w0 : Int32} {w1 : Int32} {w2 : Int32} {b : Nat} (hb : hk (ms I L) b = some (0, 10)) (h8 : cS st ≤ 8) : exD X 182 62 ls (.int w2 :: .int w1 :: .int w0 :: .ref b :: st) (ms I L) = cR (caD X 161 [.ref b, .int w0, .int w1, .int w2] (ms I L)) (fun w s => exD X 182 65 ls (psh w st) s) := g_cv rfl rfl rfl (Nat.le_of_ble_eq_true rfl) h8 hb
theorem a182_65 {X : SX} {c0 c1 c2 c3 c4 : Option Value} {x : Int32} {t : LS0} {st : List Value} {σ : SH} : exD X 182 65 (c0 :: c1 :: c2 :: c3 :: c4 :: t) (.int x :: st) σ = exD X 182 67 (stS 4 (.int x) (c0 :: c1 :: c2 :: c3 :: c4 :: t)) st σ := g_istore_4 rfl
theorem a182_67 {X : SX} {c0 c1 c2 : Option Value} {x : Int32} {t : LS0} {st : List Value} {σ : SH} : exD X 182 67 (c0 :: c1 :: c2 :: some (.int x) :: t) st σ = exD X 182 68 (c0 :: c1 :: c2 :: some (.int x) :: t) (.int x :: st) σ := g_iload_3 rfl
theorem a182_68 {X : SX} {c0 c1 c2 c3 : Option Value} {x : Int32} {t : LS0} {st : List Value} {σ : SH} : exD X 182 68 (c0 :: c1 :: c2 :: c3 :: some (.int x) :: t) st σ = exD X 182 70 (c0 :: c1 :: c2 :: c3 :: some (.int x) :: t) (.int x :: st) σ := g_iload_4 rfl
theorem a182_70 {X : SX} {c0 c1 c2 c3 c4 : Option Value} {x : Int32} {t : LS0} {st : List Value} {σ : SH} : exD X 182 70 (c0 :: c1 :: c2 :: c3 :: c4 :: some (.int x) :: t) st σ = exD X 182 72 (c0 :: c1 :: c2 :: c3 :: c4 :: some (.int x) :: t) (.int x :: st) σ := g_iload_5 rfl
theorem a182_72 {X : SX} {ls : LS0} {st : List Value} {σ : SH} {x y : Int32} : exD X 182 72 ls (.int y :: .int x :: st) σ = exD X 182 73 ls (.int (x <<< (y &&& 31)) :: st) σ := g_ishl rfl
theorem a182_73 {X : SX} {ls : LS0} {st : List Value} {σ : SH} {x y : Int32} : exD X 182 73 ls (.int y :: .int x :: st) σ = exD X 182 74 ls (.int (x ||| y) :: st) σ := g_ior rfl
theorem a182_74 {X : SX} {c0 c1 c2 c3 : Option Value} {x : Int32} {t : LS0} {st : List Value} {σ : SH} : exD X 182 74 (c0 :: c1 :: c2 :: c3 :: t) (.int x :: st) σ = exD X 182 75 (stS 3 (.int x) (c0 :: c1 :: c2 :: c3 :: t)) st σ := g_istore_3 rfl
theorem a182_75 {X : SX} {c0 c1 c2 c3 c4 : Option Value} {x : Int32} {t : LS0} {st : List Value} {σ : SH} : exD X 182 75 (c0 :: c1 :: c2 :: c3 :: c4 :: some (.int x) :: t) st σ = exD X 182 78 (stS 5 (.int (x + 1)) (c0 :: c1 :: c2 :: c3 :: c4 :: some (.int x) :: t)) st σ := g_iinc_5 rfl
theorem a182_78 {X : SX} {ls : LS0} {st : List Value} {σ : SH} : exD X 182 78 ls st σ = exD X 182 8 ls st σ := g_goto rfl
theorem a182_81 {X : SX} {c0 c1 c2 : Option Value} {x : Int32} {t : LS0} {st : List Value} {σ : SH} : exD X 182 81 (c0 :: c1 :: c2 :: some (.int x) :: t) st σ = exD X 182 82 (c0 :: c1 :: c2 :: some (.int x) :: t) (.int x :: st) σ := g_iload_3 rfl
theorem a182_82 {X : SX} {ls : LS0} {σ : SH} {x : Int32} : exD X 182 82 ls [.int x] σ = some (some (.int x), σ) := g_iret rfl rfl
theorem a183_0 {X : SX} {x : Nat} {t : LS0} {st : List Value} {σ : SH} : exD X 183 0 (some (.ref x) :: t) st σ = exD X 183 1 (some (.ref x) :: t) (.ref x :: st) σ := g_aload_0 rfl
theorem a183_1 {X : SX} {c0 : Option Value} {x : Int32} {t : LS0} {st : List Value} {σ : SH} : exD X 183 1 (c0 :: some (.int x) :: t) st σ = exD X 183 2 (c0 :: some (.int x) :: t) (.int x :: st) σ := g_iload_1 rfl
theorem a183_2 {X : SX} {ls : LS0} {st : List Value} {I : Nat → Nat → Int32} {L : Nat → Nat → Int64} {w0 : Int32} {b : Nat} (hb : hk (ms I L) b = some (0, 10)) (h8 : cS st ≤ 8) : exD X 183 2 ls (.int w0 :: .ref b :: st) (ms I L) = cR (caD X 128 [.ref b, .int w0] (ms I L)) (fun w s => exD X 183 5 ls (psh w st) s) := g_cv rfl rfl rfl (Nat.le_of_ble_eq_true rfl) h8 hb
theorem a183_5 {X : SX} {ls : LS0} {st : List Value} {σ : SH} {x : Int32} : exD X 183 5 ls (.int x :: st) σ = if x = 0 then exD X 183 8 ls st σ else exD X 183 14 ls st σ := g_ifCond_ne rfl
theorem a183_8 {X : SX} {x : Nat} {t : LS0} {st : List Value} {σ : SH} : exD X 183 8 (some (.ref x) :: t) st σ = exD X 183 9 (some (.ref x) :: t) (.ref x :: st) σ := g_aload_0 rfl
theorem a183_9 {X : SX} {ls : LS0} {st : List Value} {σ : SH} : exD X 183 9 ls st σ = exD X 183 10 ls (.int (-1) :: st) σ := g_iconst rfl
theorem a183_10 {X : SX} {ls : LS0} {st : List Value} {I : Nat → Nat → Int32} {L : Nat → Nat → Int64} {w0 : Int32} {b : Nat} (hb : hk (ms I L) b = some (0, 10)) (h8 : cS st ≤ 8) : exD X 183 10 ls (.int w0 :: .ref b :: st) (ms I L) = cR (caD X 121 [.ref b, .int w0] (ms I L)) (fun w s => exD X 183 13 ls (psh w st) s) := g_cv rfl rfl rfl (Nat.le_of_ble_eq_true rfl) h8 hb
theorem a183_13 {X : SX} {ls : LS0} {σ : SH} {x : Int32} : exD X 183 13 ls [.int x] σ = some (some (.int x), σ) := g_iret rfl rfl
theorem a183_14 {X : SX} {x : Nat} {t : LS0} {st : List Value} {σ : SH} : exD X 183 14 (some (.ref x) :: t) st σ = exD X 183 15 (some (.ref x) :: t) (.ref x :: st) σ := g_aload_0 rfl
theorem a183_15 {X : SX} {ls : LS0} {st : List Value} {I : Nat → Nat → Int32} {L : Nat → Nat → Int64} {b : Nat} (hb : hk (ms I L) b = some (0, 10)) (h8 : cS st ≤ 8) : exD X 183 15 ls (.ref b :: st) (ms I L) = cR (caD X 181 [.ref b] (ms I L)) (fun w s => exD X 183 18 ls (psh w st) s) := g_cv rfl rfl rfl (Nat.le_of_ble_eq_true rfl) h8 hb
theorem a183_18 {X : SX} {x : Nat} {t : LS0} {st : List Value} {σ : SH} : exD X 183 18 (some (.ref x) :: t) st σ = exD X 183 19 (some (.ref x) :: t) (.ref x :: st) σ := g_aload_0 rfl
theorem a183_19 {X : SX} {ls : LS0} {st : List Value} {σ : SH} : exD X 183 19 ls st σ = exD X 183 20 ls (.int 1 :: st) σ := g_iconst rfl
theorem a183_20 {X : SX} {ls : LS0} {st : List Value} {σ : SH} : exD X 183 20 ls st σ = exD X 183 21 ls (.int 1 :: st) σ := g_iconst rfl
theorem a183_21 {X : SX} {ls : LS0} {st : List Value} {I : Nat → Nat → Int32} {L : Nat → Nat → Int64} {w0 : Int32} {w1 : Int32} {b : Nat} (hb : hk (ms I L) b = some (0, 10)) (h8 : cS st ≤ 8) : exD X 183 21 ls (.int w1 :: .int w0 :: .ref b :: st) (ms I L) = cR (caD X 144 [.ref b, .int w0, .int w1] (ms I L)) (fun w s => exD X 183 24 ls (psh w st) s) := g_cv rfl rfl rfl (Nat.le_of_ble_eq_true rfl) h8 hb
theorem a183_24 {X : SX} {x : Nat} {t : LS0} {st : List Value} {σ : SH} : exD X 183 24 (some (.ref x) :: t) st σ = exD X 183 25 (some (.ref x) :: t) (.ref x :: st) σ := g_aload_0 rfl
theorem a183_25 {X : SX} {c0 : Option Value} {x : Int32} {t : LS0} {st : List Value} {σ : SH} : exD X 183 25 (c0 :: some (.int x) :: t) st σ = exD X 183 26 (c0 :: some (.int x) :: t) (.int x :: st) σ := g_iload_1 rfl
theorem a183_26 {X : SX} {ls : LS0} {st : List Value} {σ : SH} : exD X 183 26 ls st σ = exD X 183 28 ls (.int (-9) :: st) σ := g_bipush rfl
theorem a183_28 {X : SX} {ls : LS0} {st : List Value} {I : Nat → Nat → Int32} {L : Nat → Nat → Int64} {w0 : Int32} {w1 : Int32} {b : Nat} (hb : hk (ms I L) b = some (0, 10)) (h8 : cS st ≤ 8) : exD X 183 28 ls (.int w1 :: .int w0 :: .ref b :: st) (ms I L) = cR (caD X 182 [.ref b, .int w0, .int w1] (ms I L)) (fun w s => exD X 183 31 ls (psh w st) s) := g_cv rfl rfl rfl (Nat.le_of_ble_eq_true rfl) h8 hb
theorem a183_31 {X : SX} {c0 c1 c2 : Option Value} {x : Int32} {t : LS0} {st : List Value} {σ : SH} : exD X 183 31 (c0 :: c1 :: c2 :: t) (.int x :: st) σ = exD X 183 32 (stS 2 (.int x) (c0 :: c1 :: c2 :: t)) st σ := g_istore_2 rfl
theorem a183_32 {X : SX} {x : Nat} {t : LS0} {st : List Value} {σ : SH} : exD X 183 32 (some (.ref x) :: t) st σ = exD X 183 33 (some (.ref x) :: t) (.ref x :: st) σ := g_aload_0 rfl
theorem a183_33 {X : SX} {ls : LS0} {st : List Value} {σ : SH} : exD X 183 33 ls st σ = exD X 183 34 ls (.int 1 :: st) σ := g_iconst rfl
theorem a183_34 {X : SX} {ls : LS0} {st : List Value} {σ : SH} : exD X 183 34 ls st σ = exD X 183 35 ls (.int 0 :: st) σ := g_iconst rfl
theorem a183_35 {X : SX} {ls : LS0} {st : List Value} {I : Nat → Nat → Int32} {L : Nat → Nat → Int64} {w0 : Int32} {w1 : Int32} {b : Nat} (hb : hk (ms I L) b = some (0, 10)) (h8 : cS st ≤ 8) : exD X 183 35 ls (.int w1 :: .int w0 :: .ref b :: st) (ms I L) = cR (caD X 144 [.ref b, .int w0, .int w1] (ms I L)) (fun w s => exD X 183 38 ls (psh w st) s) := g_cv rfl rfl rfl (Nat.le_of_ble_eq_true rfl) h8 hb
theorem a183_38 {X : SX} {c0 c1 : Option Value} {x : Int32} {t : LS0} {st : List Value} {σ : SH} : exD X 183 38 (c0 :: c1 :: some (.int x) :: t) st σ = exD X 183 39 (c0 :: c1 :: some (.int x) :: t) (.int x :: st) σ := g_iload_2 rfl
theorem a183_39 {X : SX} {ls : LS0} {σ : SH} {x : Int32} : exD X 183 39 ls [.int x] σ = some (some (.int x), σ) := g_iret rfl rfl
theorem a184_0 {X : SX} {x : Nat} {t : LS0} {st : List Value} {σ : SH} : exD X 184 0 (some (.ref x) :: t) st σ = exD X 184 1 (some (.ref x) :: t) (.ref x :: st) σ := g_aload_0 rfl
theorem a184_1 {X : SX} {ls : LS0} {st : List Value} {σ : SH} : exD X 184 1 ls st σ = exD X 184 2 ls (.int 1 :: st) σ := g_iconst rfl
theorem a184_2 {X : SX} {ls : LS0} {st : List Value} {σ : SH} : exD X 184 2 ls st σ = exD X 184 3 ls (.int 1 :: st) σ := g_iconst rfl
theorem a184_3 {X : SX} {ls : LS0} {st : List Value} {I : Nat → Nat → Int32} {L : Nat → Nat → Int64} {w0 : Int32} {w1 : Int32} {b : Nat} (hb : hk (ms I L) b = some (0, 10)) (h8 : cS st ≤ 8) : exD X 184 3 ls (.int w1 :: .int w0 :: .ref b :: st) (ms I L) = cR (caD X 144 [.ref b, .int w0, .int w1] (ms I L)) (fun w s => exD X 184 6 ls (psh w st) s) := g_cv rfl rfl rfl (Nat.le_of_ble_eq_true rfl) h8 hb
theorem a184_6 {X : SX} {ls : LS0} {st : List Value} {σ : SH} : exD X 184 6 ls st σ = exD X 184 7 ls (.int 0 :: st) σ := g_iconst rfl
theorem a184_7 {X : SX} {c0 c1 c2 c3 : Option Value} {x : Int32} {t : LS0} {st : List Value} {σ : SH} : exD X 184 7 (c0 :: c1 :: c2 :: c3 :: t) (.int x :: st) σ = exD X 184 8 (stS 3 (.int x) (c0 :: c1 :: c2 :: c3 :: t)) st σ := g_istore_3 rfl
theorem a184_8 {X : SX} {c0 c1 c2 : Option Value} {x : Int32} {t : LS0} {st : List Value} {σ : SH} : exD X 184 8 (c0 :: c1 :: c2 :: some (.int x) :: t) st σ = exD X 184 9 (c0 :: c1 :: c2 :: some (.int x) :: t) (.int x :: st) σ := g_iload_3 rfl
theorem a184_9 {X : SX} {ls : LS0} {st : List Value} {σ : SH} : exD X 184 9 ls st σ = exD X 184 10 ls (.int 5 :: st) σ := g_iconst rfl
theorem a184_10 {X : SX} {ls : LS0} {st : List Value} {σ : SH} {x y : Int32} : exD X 184 10 ls (.int y :: .int x :: st) σ = if y ≤ x then exD X 184 26 ls st σ else exD X 184 13 ls st σ := g_if_icmp_ge rfl
theorem a184_13 {X : SX} {x : Nat} {t : LS0} {st : List Value} {σ : SH} : exD X 184 13 (some (.ref x) :: t) st σ = exD X 184 14 (some (.ref x) :: t) (.ref x :: st) σ := g_aload_0 rfl
theorem a184_14 {X : SX} {ls : LS0} {st : List Value} {I : Nat → Nat → Int32} {L : Nat → Nat → Int64} {b : Nat} (hb : hk (ms I L) b = some (0, 10)) : exD X 184 14 ls (.ref b :: st) (ms I L) = gR (PP b 1) (fun q => exD X 184 17 ls (.ref q :: st) (ms I L)) := g_gfR (e := (10, 13, 10, 1)) rfl rfl (by decide +kernel) hb
theorem a184_17 {X : SX} {c0 c1 c2 : Option Value} {x : Int32} {t : LS0} {st : List Value} {σ : SH} : exD X 184 17 (c0 :: c1 :: c2 :: some (.int x) :: t) st σ = exD X 184 18 (c0 :: c1 :: c2 :: some (.int x) :: t) (.int x :: st) σ := g_iload_3 rfl
theorem a184_18 {X : SX} {ls : LS0} {st : List Value} {σ : SH} : exD X 184 18 ls st σ = exD X 184 19 ls (.int 0 :: st) σ := g_iconst rfl
theorem a184_19 {X : SX} {ls : LS0} {st : List Value} {I : Nat → Nat → Int32} {L : Nat → Nat → Int64} {b : Nat} {i x : Int32} : exD X 184 19 ls (.int x :: .int i :: .ref b :: st) (ms I L) = iaR (hk (ms I L) b) i (exD X 184 20 ls st (ms (u2 I b i.toNatClampNeg x) L)) := g_iast rfl
theorem a184_20 {X : SX} {c0 c1 c2 : Option Value} {x : Int32} {t : LS0} {st : List Value} {σ : SH} : exD X 184 20 (c0 :: c1 :: c2 :: some (.int x) :: t) st σ = exD X 184 23 (stS 3 (.int (x + 1)) (c0 :: c1 :: c2 :: some (.int x) :: t)) st σ := g_iinc_3 rfl
theorem a184_23 {X : SX} {ls : LS0} {st : List Value} {σ : SH} : exD X 184 23 ls st σ = exD X 184 8 ls st σ := g_goto rfl
theorem a184_26 {X : SX} {x : Nat} {t : LS0} {st : List Value} {σ : SH} : exD X 184 26 (some (.ref x) :: t) st σ = exD X 184 27 (some (.ref x) :: t) (.ref x :: st) σ := g_aload_0 rfl
theorem a184_27 {X : SX} {ls : LS0} {st : List Value} {I : Nat → Nat → Int32} {L : Nat → Nat → Int64} {b : Nat} (hb : hk (ms I L) b = some (0, 10)) : exD X 184 27 ls (.ref b :: st) (ms I L) = gR (PP b 12) (fun q => exD X 184 30 ls (.ref q :: st) (ms I L)) := g_gfR (e := (10, 46, 10, 12)) rfl rfl (by decide +kernel) hb
theorem a184_30 {X : SX} {c0 : Option Value} {x : Int32} {t : LS0} {st : List Value} {σ : SH} : exD X 184 30 (c0 :: some (.int x) :: t) st σ = exD X 184 31 (c0 :: some (.int x) :: t) (.int x :: st) σ := g_iload_1 rfl
theorem a184_31 {X : SX} {ls : LS0} {st : List Value} {σ : SH} : exD X 184 31 ls st σ = exD X 184 32 ls (.int 0 :: st) σ := g_iconst rfl
theorem a184_32 {X : SX} {ls : LS0} {st : List Value} {I : Nat → Nat → Int32} {L : Nat → Nat → Int64} {b : Nat} {i x : Int32} : exD X 184 32 ls (.int x :: .int i :: .ref b :: st) (ms I L) = iaR (hk (ms I L) b) i (exD X 184 33 ls st (ms (u2 I b i.toNatClampNeg x) L)) := g_iast rfl
theorem a184_33 {X : SX} {x : Nat} {t : LS0} {st : List Value} {σ : SH} : exD X 184 33 (some (.ref x) :: t) st σ = exD X 184 34 (some (.ref x) :: t) (.ref x :: st) σ := g_aload_0 rfl
theorem a184_34 {X : SX} {ls : LS0} {st : List Value} {σ : SH} : exD X 184 34 ls st σ = exD X 184 35 ls (.int 0 :: st) σ := g_iconst rfl
theorem a184_35 {X : SX} {ls : LS0} {st : List Value} {I : Nat → Nat → Int32} {L : Nat → Nat → Int64} {b : Nat} {x : Int32} (hb : hk (ms I L) b = some (0, 10)) : exD X 184 35 ls (.int x :: .ref b :: st) (ms I L) = exD X 184 38 ls st (ms (u2 I b 16 x) L) := g_pfI (e := (10, 183, 10, 16)) rfl rfl (by decide +kernel) hb
theorem a184_38 {X : SX} {ls : LS0} {st : List Value} {σ : SH} : exD X 184 38 ls st σ = exD X 184 39 ls (.int 0 :: st) σ := g_iconst rfl
theorem a184_39 {X : SX} {c0 c1 c2 c3 : Option Value} {x : Int32} {t : LS0} {st : List Value} {σ : SH} : exD X 184 39 (c0 :: c1 :: c2 :: c3 :: t) (.int x :: st) σ = exD X 184 40 (stS 3 (.int x) (c0 :: c1 :: c2 :: c3 :: t)) st σ := g_istore_3 rfl
theorem a184_40 {X : SX} {c0 c1 c2 : Option Value} {x : Int32} {t : LS0} {st : List Value} {σ : SH} : exD X 184 40 (c0 :: c1 :: c2 :: some (.int x) :: t) st σ = exD X 184 41 (c0 :: c1 :: c2 :: some (.int x) :: t) (.int x :: st) σ := g_iload_3 rfl
theorem a184_41 {X : SX} {ls : LS0} {st : List Value} {σ : SH} : exD X 184 41 ls st σ = exD X 184 43 ls (.int 10 :: st) σ := g_bipush rfl
theorem a184_43 {X : SX} {ls : LS0} {st : List Value} {σ : SH} {x y : Int32} : exD X 184 43 ls (.int y :: .int x :: st) σ = if y ≤ x then exD X 184 61 ls st σ else exD X 184 46 ls st σ := g_if_icmp_ge rfl
theorem a184_46 {X : SX} {x : Nat} {t : LS0} {st : List Value} {σ : SH} : exD X 184 46 (some (.ref x) :: t) st σ = exD X 184 47 (some (.ref x) :: t) (.ref x :: st) σ := g_aload_0 rfl
theorem a184_47 {X : SX} {ls : LS0} {st : List Value} {σ : SH} : exD X 184 47 ls st σ = exD X 184 49 ls (.int (-9) :: st) σ := g_bipush rfl
theorem a184_49 {X : SX} {ls : LS0} {st : List Value} {σ : SH} : exD X 184 49 ls st σ = exD X 184 51 ls (.int (-9) :: st) σ := g_bipush rfl
theorem a184_51 {X : SX} {c0 c1 : Option Value} {x : Int32} {t : LS0} {st : List Value} {σ : SH} : exD X 184 51 (c0 :: c1 :: some (.int x) :: t) st σ = exD X 184 52 (c0 :: c1 :: some (.int x) :: t) (.int x :: st) σ := g_iload_2 rfl
theorem a184_52 {X : SX} {ls : LS0} {st : List Value} {I : Nat → Nat → Int32} {L : Nat → Nat → Int64} {w0 : Int32} {w1 : Int32} {w2 : Int32} {b : Nat} (hb : hk (ms I L) b = some (0, 10)) (h8 : cS st ≤ 8) : exD X 184 52 ls (.int w2 :: .int w1 :: .int w0 :: .ref b :: st) (ms I L) = cR (caD X 149 [.ref b, .int w0, .int w1, .int w2] (ms I L)) (fun w s => exD X 184 55 ls (psh w st) s) := g_cv rfl rfl rfl (Nat.le_of_ble_eq_true rfl) h8 hb
theorem a184_55 {X : SX} {c0 c1 c2 : Option Value} {x : Int32} {t : LS0} {st : List Value} {σ : SH} : exD X 184 55 (c0 :: c1 :: c2 :: some (.int x) :: t) st σ = exD X 184 58 (stS 3 (.int (x + 1)) (c0 :: c1 :: c2 :: some (.int x) :: t)) st σ := g_iinc_3 rfl
theorem a184_58 {X : SX} {ls : LS0} {st : List Value} {σ : SH} : exD X 184 58 ls st σ = exD X 184 40 ls st σ := g_goto rfl
theorem a184_61 {X : SX} {x : Nat} {t : LS0} {st : List Value} {σ : SH} : exD X 184 61 (some (.ref x) :: t) st σ = exD X 184 62 (some (.ref x) :: t) (.ref x :: st) σ := g_aload_0 rfl
theorem a184_62 {X : SX} {c0 : Option Value} {x : Int32} {t : LS0} {st : List Value} {σ : SH} : exD X 184 62 (c0 :: some (.int x) :: t) st σ = exD X 184 63 (c0 :: some (.int x) :: t) (.int x :: st) σ := g_iload_1 rfl
theorem a184_63 {X : SX} {c0 c1 : Option Value} {x : Int32} {t : LS0} {st : List Value} {σ : SH} : exD X 184 63 (c0 :: c1 :: some (.int x) :: t) st σ = exD X 184 64 (c0 :: c1 :: some (.int x) :: t) (.int x :: st) σ := g_iload_2 rfl
theorem a184_64 {X : SX} {ls : LS0} {st : List Value} {I : Nat → Nat → Int32} {L : Nat → Nat → Int64} {w0 : Int32} {w1 : Int32} {b : Nat} (hb : hk (ms I L) b = some (0, 10)) (h8 : cS st ≤ 8) : exD X 184 64 ls (.int w1 :: .int w0 :: .ref b :: st) (ms I L) = cR (caD X 182 [.ref b, .int w0, .int w1] (ms I L)) (fun w s => exD X 184 67 ls (psh w st) s) := g_cv rfl rfl rfl (Nat.le_of_ble_eq_true rfl) h8 hb
theorem a184_67 {X : SX} {c0 c1 c2 c3 : Option Value} {x : Int32} {t : LS0} {st : List Value} {σ : SH} : exD X 184 67 (c0 :: c1 :: c2 :: c3 :: t) (.int x :: st) σ = exD X 184 68 (stS 3 (.int x) (c0 :: c1 :: c2 :: c3 :: t)) st σ := g_istore_3 rfl
theorem a184_68 {X : SX} {x : Nat} {t : LS0} {st : List Value} {σ : SH} : exD X 184 68 (some (.ref x) :: t) st σ = exD X 184 69 (some (.ref x) :: t) (.ref x :: st) σ := g_aload_0 rfl
theorem a184_69 {X : SX} {ls : LS0} {st : List Value} {σ : SH} : exD X 184 69 ls st σ = exD X 184 70 ls (.int 1 :: st) σ := g_iconst rfl
theorem a184_70 {X : SX} {ls : LS0} {st : List Value} {σ : SH} : exD X 184 70 ls st σ = exD X 184 71 ls (.int 0 :: st) σ := g_iconst rfl
theorem a184_71 {X : SX} {ls : LS0} {st : List Value} {I : Nat → Nat → Int32} {L : Nat → Nat → Int64} {w0 : Int32} {w1 : Int32} {b : Nat} (hb : hk (ms I L) b = some (0, 10)) (h8 : cS st ≤ 8) : exD X 184 71 ls (.int w1 :: .int w0 :: .ref b :: st) (ms I L) = cR (caD X 144 [.ref b, .int w0, .int w1] (ms I L)) (fun w s => exD X 184 74 ls (psh w st) s) := g_cv rfl rfl rfl (Nat.le_of_ble_eq_true rfl) h8 hb
theorem a184_74 {X : SX} {c0 c1 c2 : Option Value} {x : Int32} {t : LS0} {st : List Value} {σ : SH} : exD X 184 74 (c0 :: c1 :: c2 :: some (.int x) :: t) st σ = exD X 184 75 (c0 :: c1 :: c2 :: some (.int x) :: t) (.int x :: st) σ := g_iload_3 rfl
theorem a184_75 {X : SX} {ls : LS0} {σ : SH} {x : Int32} : exD X 184 75 ls [.int x] σ = some (some (.int x), σ) := g_iret rfl rfl
theorem a185_0 {X : SX} {x : Nat} {t : LS0} {st : List Value} {σ : SH} : exD X 185 0 (some (.ref x) :: t) st σ = exD X 185 1 (some (.ref x) :: t) (.ref x :: st) σ := g_aload_0 rfl
theorem a185_1 {X : SX} {c0 : Option Value} {x : Int32} {t : LS0} {st : List Value} {σ : SH} : exD X 185 1 (c0 :: some (.int x) :: t) st σ = exD X 185 2 (c0 :: some (.int x) :: t) (.int x :: st) σ := g_iload_1 rfl
theorem a185_2 {X : SX} {ls : LS0} {st : List Value} {I : Nat → Nat → Int32} {L : Nat → Nat → Int64} {w0 : Int32} {b : Nat} (hb : hk (ms I L) b = some (0, 10)) (h8 : cS st ≤ 8) : exD X 185 2 ls (.int w0 :: .ref b :: st) (ms I L) = cR (caD X 128 [.ref b, .int w0] (ms I L)) (fun w s => exD X 185 5 ls (psh w st) s) := g_cv rfl rfl rfl (Nat.le_of_ble_eq_true rfl) h8 hb
theorem a185_5 {X : SX} {ls : LS0} {st : List Value} {σ : SH} {x : Int32} : exD X 185 5 ls (.int x :: st) σ = if x = 0 then exD X 185 16 ls st σ else exD X 185 8 ls st σ := g_ifCond_eq rfl
theorem a185_8 {X : SX} {x : Nat} {t : LS0} {st : List Value} {σ : SH} : exD X 185 8 (some (.ref x) :: t) st σ = exD X 185 9 (some (.ref x) :: t) (.ref x :: st) σ := g_aload_0 rfl
theorem a185_9 {X : SX} {c0 c1 : Option Value} {x : Int32} {t : LS0} {st : List Value} {σ : SH} : exD X 185 9 (c0 :: c1 :: some (.int x) :: t) st σ = exD X 185 10 (c0 :: c1 :: some (.int x) :: t) (.int x :: st) σ := g_iload_2 rfl
theorem a185_10 {X : SX} {ls : LS0} {st : List Value} {I : Nat → Nat → Int32} {L : Nat → Nat → Int64} {w0 : Int32} {b : Nat} (hb : hk (ms I L) b = some (0, 10)) (h8 : cS st ≤ 8) : exD X 185 10 ls (.int w0 :: .ref b :: st) (ms I L) = cR (caD X 127 [.ref b, .int w0] (ms I L)) (fun w s => exD X 185 13 ls (psh w st) s) := g_cv rfl rfl rfl (Nat.le_of_ble_eq_true rfl) h8 hb
theorem a185_13 {X : SX} {ls : LS0} {st : List Value} {σ : SH} {x : Int32} : exD X 185 13 ls (.int x :: st) σ = if x = 0 then exD X 185 16 ls st σ else exD X 185 22 ls st σ := g_ifCond_ne rfl
theorem a185_16 {X : SX} {x : Nat} {t : LS0} {st : List Value} {σ : SH} : exD X 185 16 (some (.ref x) :: t) st σ = exD X 185 17 (some (.ref x) :: t) (.ref x :: st) σ := g_aload_0 rfl
theorem a185_17 {X : SX} {ls : LS0} {st : List Value} {σ : SH} : exD X 185 17 ls st σ = exD X 185 18 ls (.int (-1) :: st) σ := g_iconst rfl
theorem a185_18 {X : SX} {ls : LS0} {st : List Value} {I : Nat → Nat → Int32} {L : Nat → Nat → Int64} {w0 : Int32} {b : Nat} (hb : hk (ms I L) b = some (0, 10)) (h8 : cS st ≤ 8) : exD X 185 18 ls (.int w0 :: .ref b :: st) (ms I L) = cR (caD X 121 [.ref b, .int w0] (ms I L)) (fun w s => exD X 185 21 ls (psh w st) s) := g_cv rfl rfl rfl (Nat.le_of_ble_eq_true rfl) h8 hb
theorem a185_21 {X : SX} {ls : LS0} {σ : SH} {x : Int32} : exD X 185 21 ls [.int x] σ = some (some (.int x), σ) := g_iret rfl rfl
theorem a185_22 {X : SX} {x : Nat} {t : LS0} {st : List Value} {σ : SH} : exD X 185 22 (some (.ref x) :: t) st σ = exD X 185 23 (some (.ref x) :: t) (.ref x :: st) σ := g_aload_0 rfl
theorem a185_23 {X : SX} {ls : LS0} {st : List Value} {I : Nat → Nat → Int32} {L : Nat → Nat → Int64} {b : Nat} (hb : hk (ms I L) b = some (0, 10)) (h8 : cS st ≤ 8) : exD X 185 23 ls (.ref b :: st) (ms I L) = cR (caD X 181 [.ref b] (ms I L)) (fun w s => exD X 185 26 ls (psh w st) s) := g_cv rfl rfl rfl (Nat.le_of_ble_eq_true rfl) h8 hb
theorem a185_26 {X : SX} {x : Nat} {t : LS0} {st : List Value} {σ : SH} : exD X 185 26 (some (.ref x) :: t) st σ = exD X 185 27 (some (.ref x) :: t) (.ref x :: st) σ := g_aload_0 rfl
theorem a185_27 {X : SX} {c0 : Option Value} {x : Int32} {t : LS0} {st : List Value} {σ : SH} : exD X 185 27 (c0 :: some (.int x) :: t) st σ = exD X 185 28 (c0 :: some (.int x) :: t) (.int x :: st) σ := g_iload_1 rfl
theorem a185_28 {X : SX} {c0 c1 : Option Value} {x : Int32} {t : LS0} {st : List Value} {σ : SH} : exD X 185 28 (c0 :: c1 :: some (.int x) :: t) st σ = exD X 185 29 (c0 :: c1 :: some (.int x) :: t) (.int x :: st) σ := g_iload_2 rfl
theorem a185_29 {X : SX} {ls : LS0} {st : List Value} {I : Nat → Nat → Int32} {L : Nat → Nat → Int64} {w0 : Int32} {w1 : Int32} {b : Nat} (hb : hk (ms I L) b = some (0, 10)) (h8 : cS st ≤ 8) : exD X 185 29 ls (.int w1 :: .int w0 :: .ref b :: st) (ms I L) = cR (caD X 184 [.ref b, .int w0, .int w1] (ms I L)) (fun w s => exD X 185 32 ls (psh w st) s) := g_cv rfl rfl rfl (Nat.le_of_ble_eq_true rfl) h8 hb
theorem a185_32 {X : SX} {ls : LS0} {σ : SH} {x : Int32} : exD X 185 32 ls [.int x] σ = some (some (.int x), σ) := g_iret rfl rfl
theorem a186_0 {X : SX} {ls : LS0} {st : List Value} {σ : SH} : exD X 186 0 ls st σ = exD X 186 1 ls (.int 0 :: st) σ := g_iconst rfl
theorem a186_1 {X : SX} {c0 c1 c2 : Option Value} {x : Int32} {t : LS0} {st : List Value} {σ : SH} : exD X 186 1 (c0 :: c1 :: c2 :: t) (.int x :: st) σ = exD X 186 2 (stS 2 (.int x) (c0 :: c1 :: c2 :: t)) st σ := g_istore_2 rfl
theorem a186_2 {X : SX} {c0 c1 : Option Value} {x : Int32} {t : LS0} {st : List Value} {σ : SH} : exD X 186 2 (c0 :: c1 :: some (.int x) :: t) st σ = exD X 186 3 (c0 :: c1 :: some (.int x) :: t) (.int x :: st) σ := g_iload_2 rfl
theorem a186_3 {X : SX} {x : Nat} {t : LS0} {st : List Value} {σ : SH} : exD X 186 3 (some (.ref x) :: t) st σ = exD X 186 4 (some (.ref x) :: t) (.ref x :: st) σ := g_aload_0 rfl
theorem a186_4 {X : SX} {ls : LS0} {st : List Value} {I : Nat → Nat → Int32} {L : Nat → Nat → Int64} {b : Nat} (hb : hk (ms I L) b = some (0, 10)) : exD X 186 4 ls (.ref b :: st) (ms I L) = exD X 186 7 ls (.int (I b 14) :: st) (ms I L) := g_gfI (e := (10, 99, 10, 14)) rfl rfl (by decide +kernel) hb
theorem a186_7 {X : SX} {ls : LS0} {st : List Value} {σ : SH} {x y : Int32} : exD X 186 7 ls (.int y :: .int x :: st) σ = if y ≤ x then exD X 186 28 ls st σ else exD X 186 10 ls st σ := g_if_icmp_ge rfl
theorem a186_10 {X : SX} {x : Nat} {t : LS0} {st : List Value} {σ : SH} : exD X 186 10 (some (.ref x) :: t) st σ = exD X 186 11 (some (.ref x) :: t) (.ref x :: st) σ := g_aload_0 rfl
theorem a186_11 {X : SX} {ls : LS0} {st : List Value} {I : Nat → Nat → Int32} {L : Nat → Nat → Int64} {b : Nat} (hb : hk (ms I L) b = some (0, 10)) : exD X 186 11 ls (.ref b :: st) (ms I L) = gR (PP b 39) (fun q => exD X 186 14 ls (.ref q :: st) (ms I L)) := g_gfR (e := (10, 89, 10, 39)) rfl rfl (by decide +kernel) hb
theorem a186_14 {X : SX} {c0 c1 : Option Value} {x : Int32} {t : LS0} {st : List Value} {σ : SH} : exD X 186 14 (c0 :: c1 :: some (.int x) :: t) st σ = exD X 186 15 (c0 :: c1 :: some (.int x) :: t) (.int x :: st) σ := g_iload_2 rfl
theorem a186_15 {X : SX} {x : Nat} {t : LS0} {st : List Value} {σ : SH} : exD X 186 15 (some (.ref x) :: t) st σ = exD X 186 16 (some (.ref x) :: t) (.ref x :: st) σ := g_aload_0 rfl
theorem a186_16 {X : SX} {c0 : Option Value} {x : Int32} {t : LS0} {st : List Value} {σ : SH} : exD X 186 16 (c0 :: some (.int x) :: t) st σ = exD X 186 17 (c0 :: some (.int x) :: t) (.int x :: st) σ := g_iload_1 rfl
theorem a186_17 {X : SX} {c0 c1 : Option Value} {x : Int32} {t : LS0} {st : List Value} {σ : SH} : exD X 186 17 (c0 :: c1 :: some (.int x) :: t) st σ = exD X 186 18 (c0 :: c1 :: some (.int x) :: t) (.int x :: st) σ := g_iload_2 rfl
theorem a186_18 {X : SX} {ls : LS0} {st : List Value} {I : Nat → Nat → Int32} {L : Nat → Nat → Int64} {w0 : Int32} {w1 : Int32} {b : Nat} (hb : hk (ms I L) b = some (0, 10)) (h8 : cS st ≤ 8) : exD X 186 18 ls (.int w1 :: .int w0 :: .ref b :: st) (ms I L) = cR (caD X 184 [.ref b, .int w0, .int w1] (ms I L)) (fun w s => exD X 186 21 ls (psh w st) s) := g_cv rfl rfl rfl (Nat.le_of_ble_eq_true rfl) h8 hb
theorem a186_21 {X : SX} {ls : LS0} {st : List Value} {I : Nat → Nat → Int32} {L : Nat → Nat → Int64} {b : Nat} {i x : Int32} : exD X 186 21 ls (.int x :: .int i :: .ref b :: st) (ms I L) = iaR (hk (ms I L) b) i (exD X 186 22 ls st (ms (u2 I b i.toNatClampNeg x) L)) := g_iast rfl
theorem a186_22 {X : SX} {c0 c1 : Option Value} {x : Int32} {t : LS0} {st : List Value} {σ : SH} : exD X 186 22 (c0 :: c1 :: some (.int x) :: t) st σ = exD X 186 25 (stS 2 (.int (x + 1)) (c0 :: c1 :: some (.int x) :: t)) st σ := g_iinc_2 rfl
theorem a186_25 {X : SX} {ls : LS0} {st : List Value} {σ : SH} : exD X 186 25 ls st σ = exD X 186 2 ls st σ := g_goto rfl
theorem a186_28 {X : SX} {ls : LS0} {st : List Value} {σ : SH} : exD X 186 28 ls st σ = exD X 186 29 ls (.int 0 :: st) σ := g_iconst rfl
theorem a186_29 {X : SX} {c0 c1 c2 : Option Value} {x : Int32} {t : LS0} {st : List Value} {σ : SH} : exD X 186 29 (c0 :: c1 :: c2 :: t) (.int x :: st) σ = exD X 186 30 (stS 2 (.int x) (c0 :: c1 :: c2 :: t)) st σ := g_istore_2 rfl
theorem a186_30 {X : SX} {ls : LS0} {st : List Value} {σ : SH} : exD X 186 30 ls st σ = exD X 186 31 ls (.int 0 :: st) σ := g_iconst rfl
theorem a186_31 {X : SX} {c0 c1 c2 c3 : Option Value} {x : Int32} {t : LS0} {st : List Value} {σ : SH} : exD X 186 31 (c0 :: c1 :: c2 :: c3 :: t) (.int x :: st) σ = exD X 186 32 (stS 3 (.int x) (c0 :: c1 :: c2 :: c3 :: t)) st σ := g_istore_3 rfl
theorem a186_32 {X : SX} {c0 c1 c2 : Option Value} {x : Int32} {t : LS0} {st : List Value} {σ : SH} : exD X 186 32 (c0 :: c1 :: c2 :: some (.int x) :: t) st σ = exD X 186 33 (c0 :: c1 :: c2 :: some (.int x) :: t) (.int x :: st) σ := g_iload_3 rfl
theorem a186_33 {X : SX} {x : Nat} {t : LS0} {st : List Value} {σ : SH} : exD X 186 33 (some (.ref x) :: t) st σ = exD X 186 34 (some (.ref x) :: t) (.ref x :: st) σ := g_aload_0 rfl
theorem a186_34 {X : SX} {ls : LS0} {st : List Value} {I : Nat → Nat → Int32} {L : Nat → Nat → Int64} {b : Nat} (hb : hk (ms I L) b = some (0, 10)) : exD X 186 34 ls (.ref b :: st) (ms I L) = exD X 186 37 ls (.int (I b 14) :: st) (ms I L) := g_gfI (e := (10, 99, 10, 14)) rfl rfl (by decide +kernel) hb
theorem a186_37 {X : SX} {ls : LS0} {st : List Value} {σ : SH} {x y : Int32} : exD X 186 37 ls (.int y :: .int x :: st) σ = if y ≤ x then exD X 186 85 ls st σ else exD X 186 40 ls st σ := g_if_icmp_ge rfl
theorem a186_40 {X : SX} {ls : LS0} {st : List Value} {σ : SH} : exD X 186 40 ls st σ = exD X 186 41 ls (.int 0 :: st) σ := g_iconst rfl
theorem a186_41 {X : SX} {c0 c1 c2 c3 c4 : Option Value} {x : Int32} {t : LS0} {st : List Value} {σ : SH} : exD X 186 41 (c0 :: c1 :: c2 :: c3 :: c4 :: t) (.int x :: st) σ = exD X 186 43 (stS 4 (.int x) (c0 :: c1 :: c2 :: c3 :: c4 :: t)) st σ := g_istore_4 rfl
theorem a186_43 {X : SX} {c0 c1 c2 c3 : Option Value} {x : Int32} {t : LS0} {st : List Value} {σ : SH} : exD X 186 43 (c0 :: c1 :: c2 :: c3 :: some (.int x) :: t) st σ = exD X 186 45 (c0 :: c1 :: c2 :: c3 :: some (.int x) :: t) (.int x :: st) σ := g_iload_4 rfl
theorem a186_45 {X : SX} {c0 c1 c2 : Option Value} {x : Int32} {t : LS0} {st : List Value} {σ : SH} : exD X 186 45 (c0 :: c1 :: c2 :: some (.int x) :: t) st σ = exD X 186 46 (c0 :: c1 :: c2 :: some (.int x) :: t) (.int x :: st) σ := g_iload_3 rfl
theorem a186_46 {X : SX} {ls : LS0} {st : List Value} {σ : SH} {x y : Int32} : exD X 186 46 ls (.int y :: .int x :: st) σ = if y ≤ x then exD X 186 79 ls st σ else exD X 186 49 ls st σ := g_if_icmp_ge rfl
theorem a186_49 {X : SX} {c0 c1 : Option Value} {x : Int32} {t : LS0} {st : List Value} {σ : SH} : exD X 186 49 (c0 :: c1 :: some (.int x) :: t) st σ = exD X 186 50 (c0 :: c1 :: some (.int x) :: t) (.int x :: st) σ := g_iload_2 rfl
theorem a186_50 {X : SX} {x : Nat} {t : LS0} {st : List Value} {σ : SH} : exD X 186 50 (some (.ref x) :: t) st σ = exD X 186 51 (some (.ref x) :: t) (.ref x :: st) σ := g_aload_0 rfl
theorem a186_51 {X : SX} {ls : LS0} {st : List Value} {I : Nat → Nat → Int32} {L : Nat → Nat → Int64} {b : Nat} (hb : hk (ms I L) b = some (0, 10)) : exD X 186 51 ls (.ref b :: st) (ms I L) = gR (PP b 39) (fun q => exD X 186 54 ls (.ref q :: st) (ms I L)) := g_gfR (e := (10, 89, 10, 39)) rfl rfl (by decide +kernel) hb
theorem a186_54 {X : SX} {c0 c1 c2 : Option Value} {x : Int32} {t : LS0} {st : List Value} {σ : SH} : exD X 186 54 (c0 :: c1 :: c2 :: some (.int x) :: t) st σ = exD X 186 55 (c0 :: c1 :: c2 :: some (.int x) :: t) (.int x :: st) σ := g_iload_3 rfl
theorem a186_55 {X : SX} {ls : LS0} {st : List Value} {I : Nat → Nat → Int32} {L : Nat → Nat → Int64} {b : Nat} {i : Int32} (hb : b < 4096) : exD X 186 55 ls (.int i :: .ref b :: st) (ms I L) = iaR (hk (ms I L) b) i (exD X 186 56 ls (.int (I b i.toNatClampNeg) :: st) (ms I L)) := g_iald rfl hb
theorem a186_56 {X : SX} {x : Nat} {t : LS0} {st : List Value} {σ : SH} : exD X 186 56 (some (.ref x) :: t) st σ = exD X 186 57 (some (.ref x) :: t) (.ref x :: st) σ := g_aload_0 rfl
theorem a186_57 {X : SX} {ls : LS0} {st : List Value} {I : Nat → Nat → Int32} {L : Nat → Nat → Int64} {b : Nat} (hb : hk (ms I L) b = some (0, 10)) : exD X 186 57 ls (.ref b :: st) (ms I L) = gR (PP b 39) (fun q => exD X 186 60 ls (.ref q :: st) (ms I L)) := g_gfR (e := (10, 89, 10, 39)) rfl rfl (by decide +kernel) hb
theorem a186_60 {X : SX} {c0 c1 c2 c3 : Option Value} {x : Int32} {t : LS0} {st : List Value} {σ : SH} : exD X 186 60 (c0 :: c1 :: c2 :: c3 :: some (.int x) :: t) st σ = exD X 186 62 (c0 :: c1 :: c2 :: c3 :: some (.int x) :: t) (.int x :: st) σ := g_iload_4 rfl
theorem a186_62 {X : SX} {ls : LS0} {st : List Value} {I : Nat → Nat → Int32} {L : Nat → Nat → Int64} {b : Nat} {i : Int32} (hb : b < 4096) : exD X 186 62 ls (.int i :: .ref b :: st) (ms I L) = iaR (hk (ms I L) b) i (exD X 186 63 ls (.int (I b i.toNatClampNeg) :: st) (ms I L)) := g_iald rfl hb
theorem a186_63 {X : SX} {ls : LS0} {st : List Value} {σ : SH} {x y : Int32} : exD X 186 63 ls (.int y :: .int x :: st) σ = if x = y then exD X 186 70 ls st σ else exD X 186 66 ls st σ := g_if_icmp_eq rfl
theorem a186_66 {X : SX} {ls : LS0} {st : List Value} {σ : SH} : exD X 186 66 ls st σ = exD X 186 67 ls (.int 1 :: st) σ := g_iconst rfl
theorem a186_67 {X : SX} {ls : LS0} {st : List Value} {σ : SH} : exD X 186 67 ls st σ = exD X 186 71 ls st σ := g_goto rfl
theorem a186_70 {X : SX} {ls : LS0} {st : List Value} {σ : SH} : exD X 186 70 ls st σ = exD X 186 71 ls (.int 0 :: st) σ := g_iconst rfl
theorem a186_71 {X : SX} {ls : LS0} {st : List Value} {σ : SH} {x y : Int32} : exD X 186 71 ls (.int y :: .int x :: st) σ = exD X 186 72 ls (.int (x + y) :: st) σ := g_iadd rfl
theorem a186_72 {X : SX} {c0 c1 c2 : Option Value} {x : Int32} {t : LS0} {st : List Value} {σ : SH} : exD X 186 72 (c0 :: c1 :: c2 :: t) (.int x :: st) σ = exD X 186 73 (stS 2 (.int x) (c0 :: c1 :: c2 :: t)) st σ := g_istore_2 rfl
theorem a186_73 {X : SX} {c0 c1 c2 c3 : Option Value} {x : Int32} {t : LS0} {st : List Value} {σ : SH} : exD X 186 73 (c0 :: c1 :: c2 :: c3 :: some (.int x) :: t) st σ = exD X 186 76 (stS 4 (.int (x + 1)) (c0 :: c1 :: c2 :: c3 :: some (.int x) :: t)) st σ := g_iinc_4 rfl
theorem a186_76 {X : SX} {ls : LS0} {st : List Value} {σ : SH} : exD X 186 76 ls st σ = exD X 186 43 ls st σ := g_goto rfl
theorem a186_79 {X : SX} {c0 c1 c2 : Option Value} {x : Int32} {t : LS0} {st : List Value} {σ : SH} : exD X 186 79 (c0 :: c1 :: c2 :: some (.int x) :: t) st σ = exD X 186 82 (stS 3 (.int (x + 1)) (c0 :: c1 :: c2 :: some (.int x) :: t)) st σ := g_iinc_3 rfl
theorem a186_82 {X : SX} {ls : LS0} {st : List Value} {σ : SH} : exD X 186 82 ls st σ = exD X 186 32 ls st σ := g_goto rfl
theorem a186_85 {X : SX} {c0 c1 : Option Value} {x : Int32} {t : LS0} {st : List Value} {σ : SH} : exD X 186 85 (c0 :: c1 :: some (.int x) :: t) st σ = exD X 186 86 (c0 :: c1 :: some (.int x) :: t) (.int x :: st) σ := g_iload_2 rfl
theorem a186_86 {X : SX} {ls : LS0} {σ : SH} {x : Int32} : exD X 186 86 ls [.int x] σ = some (some (.int x), σ) := g_iret rfl rfl
theorem a187_0 {X : SX} {x : Nat} {t : LS0} {st : List Value} {σ : SH} : exD X 187 0 (some (.ref x) :: t) st σ = exD X 187 1 (some (.ref x) :: t) (.ref x :: st) σ := g_aload_0 rfl
theorem a187_1 {X : SX} {c0 : Option Value} {x : Int32} {t : LS0} {st : List Value} {σ : SH} : exD X 187 1 (c0 :: some (.int x) :: t) st σ = exD X 187 2 (c0 :: some (.int x) :: t) (.int x :: st) σ := g_iload_1 rfl
theorem a187_2 {X : SX} {ls : LS0} {st : List Value} {I : Nat → Nat → Int32} {L : Nat → Nat → Int64} {w0 : Int32} {b : Nat} (hb : hk (ms I L) b = some (0, 10)) (h8 : cS st ≤ 8) : exD X 187 2 ls (.int w0 :: .ref b :: st) (ms I L) = cR (caD X 128 [.ref b, .int w0] (ms I L)) (fun w s => exD X 187 5 ls (psh w st) s) := g_cv rfl rfl rfl (Nat.le_of_ble_eq_true rfl) h8 hb
theorem a187_5 {X : SX} {ls : LS0} {st : List Value} {σ : SH} {x : Int32} : exD X 187 5 ls (.int x :: st) σ = if x = 0 then exD X 187 8 ls st σ else exD X 187 14 ls st σ := g_ifCond_ne rfl
theorem a187_8 {X : SX} {x : Nat} {t : LS0} {st : List Value} {σ : SH} : exD X 187 8 (some (.ref x) :: t) st σ = exD X 187 9 (some (.ref x) :: t) (.ref x :: st) σ := g_aload_0 rfl
theorem a187_9 {X : SX} {ls : LS0} {st : List Value} {σ : SH} : exD X 187 9 ls st σ = exD X 187 10 ls (.int (-1) :: st) σ := g_iconst rfl
theorem a187_10 {X : SX} {ls : LS0} {st : List Value} {I : Nat → Nat → Int32} {L : Nat → Nat → Int64} {w0 : Int32} {b : Nat} (hb : hk (ms I L) b = some (0, 10)) (h8 : cS st ≤ 8) : exD X 187 10 ls (.int w0 :: .ref b :: st) (ms I L) = cR (caD X 121 [.ref b, .int w0] (ms I L)) (fun w s => exD X 187 13 ls (psh w st) s) := g_cv rfl rfl rfl (Nat.le_of_ble_eq_true rfl) h8 hb
theorem a187_13 {X : SX} {ls : LS0} {σ : SH} {x : Int32} : exD X 187 13 ls [.int x] σ = some (some (.int x), σ) := g_iret rfl rfl
theorem a187_14 {X : SX} {x : Nat} {t : LS0} {st : List Value} {σ : SH} : exD X 187 14 (some (.ref x) :: t) st σ = exD X 187 15 (some (.ref x) :: t) (.ref x :: st) σ := g_aload_0 rfl
theorem a187_15 {X : SX} {ls : LS0} {st : List Value} {I : Nat → Nat → Int32} {L : Nat → Nat → Int64} {b : Nat} (hb : hk (ms I L) b = some (0, 10)) (h8 : cS st ≤ 8) : exD X 187 15 ls (.ref b :: st) (ms I L) = cR (caD X 181 [.ref b] (ms I L)) (fun w s => exD X 187 18 ls (psh w st) s) := g_cv rfl rfl rfl (Nat.le_of_ble_eq_true rfl) h8 hb
theorem a187_18 {X : SX} {x : Nat} {t : LS0} {st : List Value} {σ : SH} : exD X 187 18 (some (.ref x) :: t) st σ = exD X 187 19 (some (.ref x) :: t) (.ref x :: st) σ := g_aload_0 rfl
theorem a187_19 {X : SX} {c0 : Option Value} {x : Int32} {t : LS0} {st : List Value} {σ : SH} : exD X 187 19 (c0 :: some (.int x) :: t) st σ = exD X 187 20 (c0 :: some (.int x) :: t) (.int x :: st) σ := g_iload_1 rfl
theorem a187_20 {X : SX} {ls : LS0} {st : List Value} {I : Nat → Nat → Int32} {L : Nat → Nat → Int64} {w0 : Int32} {b : Nat} (hb : hk (ms I L) b = some (0, 10)) (h8 : cS st ≤ 8) : exD X 187 20 ls (.int w0 :: .ref b :: st) (ms I L) = cR (caD X 186 [.ref b, .int w0] (ms I L)) (fun w s => exD X 187 23 ls (psh w st) s) := g_cv rfl rfl rfl (Nat.le_of_ble_eq_true rfl) h8 hb
theorem a187_23 {X : SX} {ls : LS0} {σ : SH} {x : Int32} : exD X 187 23 ls [.int x] σ = some (some (.int x), σ) := g_iret rfl rfl
theorem a188_0 {X : SX} {x : Nat} {t : LS0} {st : List Value} {σ : SH} : exD X 188 0 (some (.ref x) :: t) st σ = exD X 188 1 (some (.ref x) :: t) (.ref x :: st) σ := g_aload_0 rfl
theorem a188_1 {X : SX} {c0 : Option Value} {x : Int32} {t : LS0} {st : List Value} {σ : SH} : exD X 188 1 (c0 :: some (.int x) :: t) st σ = exD X 188 2 (c0 :: some (.int x) :: t) (.int x :: st) σ := g_iload_1 rfl
theorem a188_2 {X : SX} {ls : LS0} {st : List Value} {I : Nat → Nat → Int32} {L : Nat → Nat → Int64} {w0 : Int32} {b : Nat} (hb : hk (ms I L) b = some (0, 10)) (h8 : cS st ≤ 8) : exD X 188 2 ls (.int w0 :: .ref b :: st) (ms I L) = cR (caD X 128 [.ref b, .int w0] (ms I L)) (fun w s => exD X 188 5 ls (psh w st) s) := g_cv rfl rfl rfl (Nat.le_of_ble_eq_true rfl) h8 hb
theorem a188_5 {X : SX} {ls : LS0} {st : List Value} {σ : SH} {x : Int32} : exD X 188 5 ls (.int x :: st) σ = if x = 0 then exD X 188 8 ls st σ else exD X 188 12 ls st σ := g_ifCond_ne rfl
theorem a188_8 {X : SX} {ls : LS0} {st : List Value} {σ : SH} : exD X 188 8 ls st σ = exD X 188 9 ls (.int (-1) :: st) σ := g_iconst rfl
theorem a188_9 {X : SX} {ls : LS0} {st : List Value} {σ : SH} : exD X 188 9 ls st σ = exD X 188 32 ls st σ := g_goto rfl
theorem a188_12 {X : SX} {c0 c1 c2 : Option Value} {x : Int32} {t : LS0} {st : List Value} {σ : SH} : exD X 188 12 (c0 :: c1 :: c2 :: some (.int x) :: t) st σ = exD X 188 13 (c0 :: c1 :: c2 :: some (.int x) :: t) (.int x :: st) σ := g_iload_3 rfl
theorem a188_13 {X : SX} {ls : LS0} {st : List Value} {σ : SH} : exD X 188 13 ls st σ = exD X 188 14 ls (.int 0 :: st) σ := g_iconst rfl
theorem a188_14 {X : SX} {ls : LS0} {st : List Value} {σ : SH} : exD X 188 14 ls st σ = exD X 188 15 ls (.int 1 :: st) σ := g_iconst rfl
theorem a188_15 {X : SX} {ls : LS0} {st : List Value} {σ : SH} {w0 : Int32} {w1 : Int32} {w2 : Int32} (h8 : cS st ≤ 8) : exD X 188 15 ls (.int w2 :: .int w1 :: .int w0 :: st) σ = cR (caD X 124 [.int w0, .int w1, .int w2] σ) (fun w s => exD X 188 18 ls (psh w st) s) := g_cs rfl rfl (Or.inl rfl) rfl (Nat.le_of_ble_eq_true rfl) h8
theorem a188_18 {X : SX} {ls : LS0} {st : List Value} {σ : SH} {x : Int32} : exD X 188 18 ls (.int x :: st) σ = if x = 0 then exD X 188 21 ls st σ else exD X 188 26 ls st σ := g_ifCond_ne rfl
theorem a188_21 {X : SX} {ls : LS0} {st : List Value} {σ : SH} : exD X 188 21 ls st σ = exD X 188 23 ls (.int (-2) :: st) σ := g_bipush rfl
theorem a188_23 {X : SX} {ls : LS0} {st : List Value} {σ : SH} : exD X 188 23 ls st σ = exD X 188 32 ls st σ := g_goto rfl
theorem a188_26 {X : SX} {c0 c1 : Option Value} {x : Int32} {t : LS0} {st : List Value} {σ : SH} : exD X 188 26 (c0 :: c1 :: some (.int x) :: t) st σ = exD X 188 27 (c0 :: c1 :: some (.int x) :: t) (.int x :: st) σ := g_iload_2 rfl
theorem a188_27 {X : SX} {ls : LS0} {st : List Value} {σ : SH} : exD X 188 27 ls st σ = exD X 188 28 ls (.int 1 :: st) σ := g_iconst rfl
theorem a188_28 {X : SX} {ls : LS0} {st : List Value} {σ : SH} : exD X 188 28 ls st σ = exD X 188 29 ls (.int 3 :: st) σ := g_iconst rfl
theorem a188_29 {X : SX} {ls : LS0} {st : List Value} {σ : SH} {w0 : Int32} {w1 : Int32} {w2 : Int32} (h8 : cS st ≤ 8) : exD X 188 29 ls (.int w2 :: .int w1 :: .int w0 :: st) σ = cR (caD X 125 [.int w0, .int w1, .int w2] σ) (fun w s => exD X 188 32 ls (psh w st) s) := g_cs rfl rfl (Or.inl rfl) rfl (Nat.le_of_ble_eq_true rfl) h8
theorem a188_32 {X : SX} {c0 c1 c2 c3 c4 : Option Value} {x : Int32} {t : LS0} {st : List Value} {σ : SH} : exD X 188 32 (c0 :: c1 :: c2 :: c3 :: c4 :: t) (.int x :: st) σ = exD X 188 34 (stS 4 (.int x) (c0 :: c1 :: c2 :: c3 :: c4 :: t)) st σ := g_istore_4 rfl
theorem a188_34 {X : SX} {c0 c1 c2 c3 : Option Value} {x : Int32} {t : LS0} {st : List Value} {σ : SH} : exD X 188 34 (c0 :: c1 :: c2 :: c3 :: some (.int x) :: t) st σ = exD X 188 36 (c0 :: c1 :: c2 :: c3 :: some (.int x) :: t) (.int x :: st) σ := g_iload_4 rfl
theorem a188_36 {X : SX} {ls : LS0} {st : List Value} {σ : SH} {x : Int32} : exD X 188 36 ls (.int x :: st) σ = if x = 0 then exD X 188 46 ls st σ else exD X 188 39 ls st σ := g_ifCond_eq rfl
theorem a188_39 {X : SX} {x : Nat} {t : LS0} {st : List Value} {σ : SH} : exD X 188 39 (some (.ref x) :: t) st σ = exD X 188 40 (some (.ref x) :: t) (.ref x :: st) σ := g_aload_0 rfl
theorem a188_40 {X : SX} {c0 c1 c2 c3 : Option Value} {x : Int32} {t : LS0} {st : List Value} {σ : SH} : exD X 188 40 (c0 :: c1 :: c2 :: c3 :: some (.int x) :: t) st σ = exD X 188 42 (c0 :: c1 :: c2 :: c3 :: some (.int x) :: t) (.int x :: st) σ := g_iload_4 rfl
theorem a188_42 {X : SX} {ls : LS0} {st : List Value} {I : Nat → Nat → Int32} {L : Nat → Nat → Int64} {w0 : Int32} {b : Nat} (hb : hk (ms I L) b = some (0, 10)) (h8 : cS st ≤ 8) : exD X 188 42 ls (.int w0 :: .ref b :: st) (ms I L) = cR (caD X 121 [.ref b, .int w0] (ms I L)) (fun w s => exD X 188 45 ls (psh w st) s) := g_cv rfl rfl rfl (Nat.le_of_ble_eq_true rfl) h8 hb
theorem a188_45 {X : SX} {ls : LS0} {σ : SH} {x : Int32} : exD X 188 45 ls [.int x] σ = some (some (.int x), σ) := g_iret rfl rfl
theorem a188_46 {X : SX} {ls : LS0} {st : List Value} {σ : SH} : exD X 188 46 ls st σ = exD X 188 47 ls (.int 1 :: st) σ := g_iconst rfl
theorem a188_47 {X : SX} {c0 c1 c2 c3 c4 c5 : Option Value} {x : Int32} {t : LS0} {st : List Value} {σ : SH} : exD X 188 47 (c0 :: c1 :: c2 :: c3 :: c4 :: c5 :: t) (.int x :: st) σ = exD X 188 49 (stS 5 (.int x) (c0 :: c1 :: c2 :: c3 :: c4 :: c5 :: t)) st σ := g_istore_5 rfl
theorem a188_49 {X : SX} {ls : LS0} {st : List Value} {σ : SH} : exD X 188 49 ls st σ = exD X 188 50 ls (.int 0 :: st) σ := g_iconst rfl
theorem a188_50 {X : SX} {c0 c1 c2 c3 c4 c5 c6 : Option Value} {x : Int32} {t : LS0} {st : List Value} {σ : SH} : exD X 188 50 (c0 :: c1 :: c2 :: c3 :: c4 :: c5 :: c6 :: t) (.int x :: st) σ = exD X 188 52 (stS 6 (.int x) (c0 :: c1 :: c2 :: c3 :: c4 :: c5 :: c6 :: t)) st σ := g_istore_6 rfl
theorem a188_52 {X : SX} {c0 c1 c2 c3 c4 c5 : Option Value} {x : Int32} {t : LS0} {st : List Value} {σ : SH} : exD X 188 52 (c0 :: c1 :: c2 :: c3 :: c4 :: c5 :: some (.int x) :: t) st σ = exD X 188 54 (c0 :: c1 :: c2 :: c3 :: c4 :: c5 :: some (.int x) :: t) (.int x :: st) σ := g_iload_6 rfl
theorem a188_54 {X : SX} {c0 c1 : Option Value} {x : Int32} {t : LS0} {st : List Value} {σ : SH} : exD X 188 54 (c0 :: c1 :: some (.int x) :: t) st σ = exD X 188 55 (c0 :: c1 :: some (.int x) :: t) (.int x :: st) σ := g_iload_2 rfl
theorem a188_55 {X : SX} {ls : LS0} {st : List Value} {σ : SH} {x y : Int32} : exD X 188 55 ls (.int y :: .int x :: st) σ = if y ≤ x then exD X 188 73 ls st σ else exD X 188 58 ls st σ := g_if_icmp_ge rfl
theorem a188_58 {X : SX} {c0 c1 c2 c3 c4 : Option Value} {x : Int32} {t : LS0} {st : List Value} {σ : SH} : exD X 188 58 (c0 :: c1 :: c2 :: c3 :: c4 :: some (.int x) :: t) st σ = exD X 188 60 (c0 :: c1 :: c2 :: c3 :: c4 :: some (.int x) :: t) (.int x :: st) σ := g_iload_5 rfl
theorem a188_60 {X : SX} {x : Nat} {t : LS0} {st : List Value} {σ : SH} : exD X 188 60 (some (.ref x) :: t) st σ = exD X 188 61 (some (.ref x) :: t) (.ref x :: st) σ := g_aload_0 rfl
theorem a188_61 {X : SX} {ls : LS0} {st : List Value} {I : Nat → Nat → Int32} {L : Nat → Nat → Int64} {b : Nat} (hb : hk (ms I L) b = some (0, 10)) : exD X 188 61 ls (.ref b :: st) (ms I L) = exD X 188 64 ls (.int (I b 13) :: st) (ms I L) := g_gfI (e := (10, 49, 10, 13)) rfl rfl (by decide +kernel) hb
theorem a188_64 {X : SX} {ls : LS0} {st : List Value} {σ : SH} {x y : Int32} : exD X 188 64 ls (.int y :: .int x :: st) σ = exD X 188 65 ls (.int (x * y) :: st) σ := g_imul rfl
theorem a188_65 {X : SX} {c0 c1 c2 c3 c4 c5 : Option Value} {x : Int32} {t : LS0} {st : List Value} {σ : SH} : exD X 188 65 (c0 :: c1 :: c2 :: c3 :: c4 :: c5 :: t) (.int x :: st) σ = exD X 188 67 (stS 5 (.int x) (c0 :: c1 :: c2 :: c3 :: c4 :: c5 :: t)) st σ := g_istore_5 rfl
theorem a188_67 {X : SX} {c0 c1 c2 c3 c4 c5 : Option Value} {x : Int32} {t : LS0} {st : List Value} {σ : SH} : exD X 188 67 (c0 :: c1 :: c2 :: c3 :: c4 :: c5 :: some (.int x) :: t) st σ = exD X 188 70 (stS 6 (.int (x + 1)) (c0 :: c1 :: c2 :: c3 :: c4 :: c5 :: some (.int x) :: t)) st σ := g_iinc_6 rfl
theorem a188_70 {X : SX} {ls : LS0} {st : List Value} {σ : SH} : exD X 188 70 ls st σ = exD X 188 52 ls st σ := g_goto rfl
theorem a188_73 {X : SX} {x : Nat} {t : LS0} {st : List Value} {σ : SH} : exD X 188 73 (some (.ref x) :: t) st σ = exD X 188 74 (some (.ref x) :: t) (.ref x :: st) σ := g_aload_0 rfl
theorem a188_74 {X : SX} {c0 c1 : Option Value} {x : Int32} {t : LS0} {st : List Value} {σ : SH} : exD X 188 74 (c0 :: c1 :: some (.int x) :: t) st σ = exD X 188 75 (c0 :: c1 :: some (.int x) :: t) (.int x :: st) σ := g_iload_2 rfl
theorem a188_75 {X : SX} {ls : LS0} {st : List Value} {I : Nat → Nat → Int32} {L : Nat → Nat → Int64} {b : Nat} {x : Int32} (hb : hk (ms I L) b = some (0, 10)) : exD X 188 75 ls (.int x :: .ref b :: st) (ms I L) = exD X 188 78 ls st (ms (u2 I b 38 x) L) := g_pfI (e := (10, 252, 10, 38)) rfl rfl (by decide +kernel) hb
theorem a188_78 {X : SX} {ls : LS0} {st : List Value} {σ : SH} : exD X 188 78 ls st σ = exD X 188 79 ls (.int 0 :: st) σ := g_iconst rfl
theorem a188_79 {X : SX} {c0 c1 c2 c3 c4 c5 c6 : Option Value} {x : Int32} {t : LS0} {st : List Value} {σ : SH} : exD X 188 79 (c0 :: c1 :: c2 :: c3 :: c4 :: c5 :: c6 :: t) (.int x :: st) σ = exD X 188 81 (stS 6 (.int x) (c0 :: c1 :: c2 :: c3 :: c4 :: c5 :: c6 :: t)) st σ := g_istore_6 rfl
theorem a188_81 {X : SX} {ls : LS0} {st : List Value} {σ : SH} : exD X 188 81 ls st σ = exD X 188 82 ls (.int (-1) :: st) σ := g_iconst rfl
theorem a188_82 {X : SX} {c0 c1 c2 c3 c4 c5 c6 c7 : Option Value} {x : Int32} {t : LS0} {st : List Value} {σ : SH} : exD X 188 82 (c0 :: c1 :: c2 :: c3 :: c4 :: c5 :: c6 :: c7 :: t) (.int x :: st) σ = exD X 188 84 (stS 7 (.int x) (c0 :: c1 :: c2 :: c3 :: c4 :: c5 :: c6 :: c7 :: t)) st σ := g_istore_7 rfl
theorem a188_84 {X : SX} {ls : LS0} {st : List Value} {σ : SH} : exD X 188 84 ls st σ = exD X 188 85 ls (.int 0 :: st) σ := g_iconst rfl
theorem a188_85 {X : SX} {c0 c1 c2 c3 c4 c5 c6 c7 c8 : Option Value} {x : Int32} {t : LS0} {st : List Value} {σ : SH} : exD X 188 85 (c0 :: c1 :: c2 :: c3 :: c4 :: c5 :: c6 :: c7 :: c8 :: t) (.int x :: st) σ = exD X 188 87 (stS 8 (.int x) (c0 :: c1 :: c2 :: c3 :: c4 :: c5 :: c6 :: c7 :: c8 :: t)) st σ := g_istore_8 rfl
theorem a188_87 {X : SX} {c0 c1 c2 c3 c4 c5 c6 c7 : Option Value} {x : Int32} {t : LS0} {st : List Value} {σ : SH} : exD X 188 87 (c0 :: c1 :: c2 :: c3 :: c4 :: c5 :: c6 :: c7 :: some (.int x) :: t) st σ = exD X 188 89 (c0 :: c1 :: c2 :: c3 :: c4 :: c5 :: c6 :: c7 :: some (.int x) :: t) (.int x :: st) σ := g_iload_8 rfl
theorem a188_89 {X : SX} {c0 c1 c2 c3 c4 : Option Value} {x : Int32} {t : LS0} {st : List Value} {σ : SH} : exD X 188 89 (c0 :: c1 :: c2 :: c3 :: c4 :: some (.int x) :: t) st σ = exD X 188 91 (c0 :: c1 :: c2 :: c3 :: c4 :: some (.int x) :: t) (.int x :: st) σ := g_iload_5 rfl
theorem a188_91 {X : SX} {ls : LS0} {st : List Value} {σ : SH} {x y : Int32} : exD X 188 91 ls (.int y :: .int x :: st) σ = if y ≤ x then exD X 188 186 ls st σ else exD X 188 94 ls st σ := g_if_icmp_ge rfl
theorem a188_94 {X : SX} {c0 c1 c2 c3 c4 c5 c6 c7 : Option Value} {x : Int32} {t : LS0} {st : List Value} {σ : SH} : exD X 188 94 (c0 :: c1 :: c2 :: c3 :: c4 :: c5 :: c6 :: c7 :: some (.int x) :: t) st σ = exD X 188 96 (c0 :: c1 :: c2 :: c3 :: c4 :: c5 :: c6 :: c7 :: some (.int x) :: t) (.int x :: st) σ := g_iload_8 rfl
theorem a188_96 {X : SX} {c0 c1 c2 c3 c4 c5 c6 c7 c8 c9 : Option Value} {x : Int32} {t : LS0} {st : List Value} {σ : SH} : exD X 188 96 (c0 :: c1 :: c2 :: c3 :: c4 :: c5 :: c6 :: c7 :: c8 :: c9 :: t) (.int x :: st) σ = exD X 188 98 (stS 9 (.int x) (c0 :: c1 :: c2 :: c3 :: c4 :: c5 :: c6 :: c7 :: c8 :: c9 :: t)) st σ := g_istore_9 rfl
theorem a188_98 {X : SX} {ls : LS0} {st : List Value} {σ : SH} : exD X 188 98 ls st σ = exD X 188 99 ls (.int 0 :: st) σ := g_iconst rfl
theorem a188_99 {X : SX} {c0 c1 c2 c3 c4 c5 c6 c7 c8 c9 c10 : Option Value} {x : Int32} {t : LS0} {st : List Value} {σ : SH} : exD X 188 99 (c0 :: c1 :: c2 :: c3 :: c4 :: c5 :: c6 :: c7 :: c8 :: c9 :: c10 :: t) (.int x :: st) σ = exD X 188 101 (stS 10 (.int x) (c0 :: c1 :: c2 :: c3 :: c4 :: c5 :: c6 :: c7 :: c8 :: c9 :: c10 :: t)) st σ := g_istore_10 rfl
theorem a188_101 {X : SX} {c0 c1 : Option Value} {x : Int32} {t : LS0} {st : List Value} {σ : SH} : exD X 188 101 (c0 :: c1 :: some (.int x) :: t) st σ = exD X 188 102 (c0 :: c1 :: some (.int x) :: t) (.int x :: st) σ := g_iload_2 rfl
theorem a188_102 {X : SX} {ls : LS0} {st : List Value} {σ : SH} : exD X 188 102 ls st σ = exD X 188 103 ls (.int 1 :: st) σ := g_iconst rfl
theorem a188_103 {X : SX} {ls : LS0} {st : List Value} {σ : SH} {x y : Int32} : exD X 188 103 ls (.int y :: .int x :: st) σ = exD X 188 104 ls (.int (x - y) :: st) σ := g_isub rfl
theorem a188_104 {X : SX} {c0 c1 c2 c3 c4 c5 c6 c7 c8 c9 c10 c11 : Option Value} {x : Int32} {t : LS0} {st : List Value} {σ : SH} : exD X 188 104 (c0 :: c1 :: c2 :: c3 :: c4 :: c5 :: c6 :: c7 :: c8 :: c9 :: c10 :: c11 :: t) (.int x :: st) σ = exD X 188 106 (stS 11 (.int x) (c0 :: c1 :: c2 :: c3 :: c4 :: c5 :: c6 :: c7 :: c8 :: c9 :: c10 :: c11 :: t)) st σ := g_istore_11 rfl
theorem a188_106 {X : SX} {c0 c1 c2 c3 c4 c5 c6 c7 c8 c9 c10 : Option Value} {x : Int32} {t : LS0} {st : List Value} {σ : SH} : exD X 188 106 (c0 :: c1 :: c2 :: c3 :: c4 :: c5 :: c6 :: c7 :: c8 :: c9 :: c10 :: some (.int x) :: t) st σ = exD X 188 108 (c0 :: c1 :: c2 :: c3 :: c4 :: c5 :: c6 :: c7 :: c8 :: c9 :: c10 :: some (.int x) :: t) (.int x :: st) σ := g_iload_11 rfl
theorem a188_108 {X : SX} {ls : LS0} {st : List Value} {σ : SH} {x : Int32} : exD X 188 108 ls (.int x :: st) σ = if x < 0 then exD X 188 155 ls st σ else exD X 188 111 ls st σ := g_ifCond_lt rfl
theorem a188_111 {X : SX} {x : Nat} {t : LS0} {st : List Value} {σ : SH} : exD X 188 111 (some (.ref x) :: t) st σ = exD X 188 112 (some (.ref x) :: t) (.ref x :: st) σ := g_aload_0 rfl
theorem a188_112 {X : SX} {ls : LS0} {st : List Value} {I : Nat → Nat → Int32} {L : Nat → Nat → Int64} {b : Nat} (hb : hk (ms I L) b = some (0, 10)) : exD X 188 112 ls (.ref b :: st) (ms I L) = gR (PP b 36) (fun q => exD X 188 115 ls (.ref q :: st) (ms I L)) := g_gfR (e := (10, 86, 10, 36)) rfl rfl (by decide +kernel) hb
theorem a188_115 {X : SX} {c0 c1 c2 c3 c4 c5 c6 c7 c8 c9 c10 : Option Value} {x : Int32} {t : LS0} {st : List Value} {σ : SH} : exD X 188 115 (c0 :: c1 :: c2 :: c3 :: c4 :: c5 :: c6 :: c7 :: c8 :: c9 :: c10 :: some (.int x) :: t) st σ = exD X 188 117 (c0 :: c1 :: c2 :: c3 :: c4 :: c5 :: c6 :: c7 :: c8 :: c9 :: c10 :: some (.int x) :: t) (.int x :: st) σ := g_iload_11 rfl
theorem a188_117 {X : SX} {c0 c1 c2 c3 c4 c5 c6 c7 c8 : Option Value} {x : Int32} {t : LS0} {st : List Value} {σ : SH} : exD X 188 117 (c0 :: c1 :: c2 :: c3 :: c4 :: c5 :: c6 :: c7 :: c8 :: some (.int x) :: t) st σ = exD X 188 119 (c0 :: c1 :: c2 :: c3 :: c4 :: c5 :: c6 :: c7 :: c8 :: some (.int x) :: t) (.int x :: st) σ := g_iload_9 rfl
theorem a188_119 {X : SX} {x : Nat} {t : LS0} {st : List Value} {σ : SH} : exD X 188 119 (some (.ref x) :: t) st σ = exD X 188 120 (some (.ref x) :: t) (.ref x :: st) σ := g_aload_0 rfl
theorem a188_120 {X : SX} {ls : LS0} {st : List Value} {I : Nat → Nat → Int32} {L : Nat → Nat → Int64} {b : Nat} (hb : hk (ms I L) b = some (0, 10)) : exD X 188 120 ls (.ref b :: st) (ms I L) = exD X 188 123 ls (.int (I b 13) :: st) (ms I L) := g_gfI (e := (10, 49, 10, 13)) rfl rfl (by decide +kernel) hb
theorem a188_123 {X : SX} {ls : LS0} {st : List Value} {σ : SH} {x y : Int32} : exD X 188 123 ls (.int y :: .int x :: st) σ = if y = 0 then none else exD X 188 124 ls (.int (x - x / y * y) :: st) σ := g_irem rfl
theorem a188_124 {X : SX} {ls : LS0} {st : List Value} {I : Nat → Nat → Int32} {L : Nat → Nat → Int64} {b : Nat} {i x : Int32} : exD X 188 124 ls (.int x :: .int i :: .ref b :: st) (ms I L) = iaR (hk (ms I L) b) i (exD X 188 125 ls st (ms (u2 I b i.toNatClampNeg x) L)) := g_iast rfl
theorem a188_125 {X : SX} {c0 c1 c2 c3 c4 c5 c6 c7 c8 : Option Value} {x : Int32} {t : LS0} {st : List Value} {σ : SH} : exD X 188 125 (c0 :: c1 :: c2 :: c3 :: c4 :: c5 :: c6 :: c7 :: c8 :: some (.int x) :: t) st σ = exD X 188 127 (c0 :: c1 :: c2 :: c3 :: c4 :: c5 :: c6 :: c7 :: c8 :: some (.int x) :: t) (.int x :: st) σ := g_iload_9 rfl
theorem a188_127 {X : SX} {x : Nat} {t : LS0} {st : List Value} {σ : SH} : exD X 188 127 (some (.ref x) :: t) st σ = exD X 188 128 (some (.ref x) :: t) (.ref x :: st) σ := g_aload_0 rfl
theorem a188_128 {X : SX} {ls : LS0} {st : List Value} {I : Nat → Nat → Int32} {L : Nat → Nat → Int64} {b : Nat} (hb : hk (ms I L) b = some (0, 10)) : exD X 188 128 ls (.ref b :: st) (ms I L) = exD X 188 131 ls (.int (I b 13) :: st) (ms I L) := g_gfI (e := (10, 49, 10, 13)) rfl rfl (by decide +kernel) hb
theorem a188_131 {X : SX} {ls : LS0} {st : List Value} {σ : SH} {x y : Int32} : exD X 188 131 ls (.int y :: .int x :: st) σ = if y = 0 then none else exD X 188 132 ls (.int (x / y) :: st) σ := g_idiv rfl
theorem a188_132 {X : SX} {c0 c1 c2 c3 c4 c5 c6 c7 c8 c9 : Option Value} {x : Int32} {t : LS0} {st : List Value} {σ : SH} : exD X 188 132 (c0 :: c1 :: c2 :: c3 :: c4 :: c5 :: c6 :: c7 :: c8 :: c9 :: t) (.int x :: st) σ = exD X 188 134 (stS 9 (.int x) (c0 :: c1 :: c2 :: c3 :: c4 :: c5 :: c6 :: c7 :: c8 :: c9 :: t)) st σ := g_istore_9 rfl
theorem a188_134 {X : SX} {ls : LS0} {st : List Value} {σ : SH} : exD X 188 134 ls st σ = exD X 188 136 ls (.int 10 :: st) σ := g_bipush rfl
theorem a188_136 {X : SX} {c0 c1 c2 c3 c4 c5 c6 c7 c8 c9 : Option Value} {x : Int32} {t : LS0} {st : List Value} {σ : SH} : exD X 188 136 (c0 :: c1 :: c2 :: c3 :: c4 :: c5 :: c6 :: c7 :: c8 :: c9 :: some (.int x) :: t) st σ = exD X 188 138 (c0 :: c1 :: c2 :: c3 :: c4 :: c5 :: c6 :: c7 :: c8 :: c9 :: some (.int x) :: t) (.int x :: st) σ := g_iload_10 rfl
theorem a188_138 {X : SX} {ls : LS0} {st : List Value} {σ : SH} {x y : Int32} : exD X 188 138 ls (.int y :: .int x :: st) σ = exD X 188 139 ls (.int (x * y) :: st) σ := g_imul rfl
theorem a188_139 {X : SX} {x : Nat} {t : LS0} {st : List Value} {σ : SH} : exD X 188 139 (some (.ref x) :: t) st σ = exD X 188 140 (some (.ref x) :: t) (.ref x :: st) σ := g_aload_0 rfl
theorem a188_140 {X : SX} {ls : LS0} {st : List Value} {I : Nat → Nat → Int32} {L : Nat → Nat → Int64} {b : Nat} (hb : hk (ms I L) b = some (0, 10)) : exD X 188 140 ls (.ref b :: st) (ms I L) = gR (PP b 36) (fun q => exD X 188 143 ls (.ref q :: st) (ms I L)) := g_gfR (e := (10, 86, 10, 36)) rfl rfl (by decide +kernel) hb
theorem a188_143 {X : SX} {c0 c1 c2 c3 c4 c5 c6 c7 c8 c9 c10 : Option Value} {x : Int32} {t : LS0} {st : List Value} {σ : SH} : exD X 188 143 (c0 :: c1 :: c2 :: c3 :: c4 :: c5 :: c6 :: c7 :: c8 :: c9 :: c10 :: some (.int x) :: t) st σ = exD X 188 145 (c0 :: c1 :: c2 :: c3 :: c4 :: c5 :: c6 :: c7 :: c8 :: c9 :: c10 :: some (.int x) :: t) (.int x :: st) σ := g_iload_11 rfl
theorem a188_145 {X : SX} {ls : LS0} {st : List Value} {I : Nat → Nat → Int32} {L : Nat → Nat → Int64} {b : Nat} {i : Int32} (hb : b < 4096) : exD X 188 145 ls (.int i :: .ref b :: st) (ms I L) = iaR (hk (ms I L) b) i (exD X 188 146 ls (.int (I b i.toNatClampNeg) :: st) (ms I L)) := g_iald rfl hb
theorem a188_146 {X : SX} {ls : LS0} {st : List Value} {σ : SH} {x y : Int32} : exD X 188 146 ls (.int y :: .int x :: st) σ = exD X 188 147 ls (.int (x + y) :: st) σ := g_iadd rfl
theorem a188_147 {X : SX} {c0 c1 c2 c3 c4 c5 c6 c7 c8 c9 c10 : Option Value} {x : Int32} {t : LS0} {st : List Value} {σ : SH} : exD X 188 147 (c0 :: c1 :: c2 :: c3 :: c4 :: c5 :: c6 :: c7 :: c8 :: c9 :: c10 :: t) (.int x :: st) σ = exD X 188 149 (stS 10 (.int x) (c0 :: c1 :: c2 :: c3 :: c4 :: c5 :: c6 :: c7 :: c8 :: c9 :: c10 :: t)) st σ := g_istore_10 rfl
theorem a188_149 {X : SX} {c0 c1 c2 c3 c4 c5 c6 c7 c8 c9 c10 : Option Value} {x : Int32} {t : LS0} {st : List Value} {σ : SH} : exD X 188 149 (c0 :: c1 :: c2 :: c3 :: c4 :: c5 :: c6 :: c7 :: c8 :: c9 :: c10 :: some (.int x) :: t) st σ = exD X 188 152 (stS 11 (.int (x + (-1))) (c0 :: c1 :: c2 :: c3 :: c4 :: c5 :: c6 :: c7 :: c8 :: c9 :: c10 :: some (.int x) :: t)) st σ := g_iinc_11 rfl
theorem a188_152 {X : SX} {ls : LS0} {st : List Value} {σ : SH} : exD X 188 152 ls st σ = exD X 188 106 ls st σ := g_goto rfl
theorem a188_155 {X : SX} {x : Nat} {t : LS0} {st : List Value} {σ : SH} : exD X 188 155 (some (.ref x) :: t) st σ = exD X 188 156 (some (.ref x) :: t) (.ref x :: st) σ := g_aload_0 rfl
theorem a188_156 {X : SX} {c0 : Option Value} {x : Int32} {t : LS0} {st : List Value} {σ : SH} : exD X 188 156 (c0 :: some (.int x) :: t) st σ = exD X 188 157 (c0 :: some (.int x) :: t) (.int x :: st) σ := g_iload_1 rfl
theorem a188_157 {X : SX} {ls : LS0} {st : List Value} {I : Nat → Nat → Int32} {L : Nat → Nat → Int64} {w0 : Int32} {b : Nat} (hb : hk (ms I L) b = some (0, 10)) (h8 : cS st ≤ 8) : exD X 188 157 ls (.int w0 :: .ref b :: st) (ms I L) = cR (caD X 186 [.ref b, .int w0] (ms I L)) (fun w s => exD X 188 160 ls (psh w st) s) := g_cv rfl rfl rfl (Nat.le_of_ble_eq_true rfl) h8 hb
theorem a188_160 {X : SX} {c0 c1 c2 c3 c4 c5 c6 c7 c8 c9 c10 c11 : Option Value} {x : Int32} {t : LS0} {st : List Value} {σ : SH} : exD X 188 160 (c0 :: c1 :: c2 :: c3 :: c4 :: c5 :: c6 :: c7 :: c8 :: c9 :: c10 :: c11 :: t) (.int x :: st) σ = exD X 188 162 (stS 11 (.int x) (c0 :: c1 :: c2 :: c3 :: c4 :: c5 :: c6 :: c7 :: c8 :: c9 :: c10 :: c11 :: t)) st σ := g_istore_11 rfl
theorem a188_162 {X : SX} {c0 c1 c2 c3 c4 c5 c6 c7 c8 c9 c10 : Option Value} {x : Int32} {t : LS0} {st : List Value} {σ : SH} : exD X 188 162 (c0 :: c1 :: c2 :: c3 :: c4 :: c5 :: c6 :: c7 :: c8 :: c9 :: c10 :: some (.int x) :: t) st σ = exD X 188 164 (c0 :: c1 :: c2 :: c3 :: c4 :: c5 :: c6 :: c7 :: c8 :: c9 :: c10 :: some (.int x) :: t) (.int x :: st) σ := g_iload_11 rfl
theorem a188_164 {X : SX} {c0 c1 c2 c3 c4 c5 c6 : Option Value} {x : Int32} {t : LS0} {st : List Value} {σ : SH} : exD X 188 164 (c0 :: c1 :: c2 :: c3 :: c4 :: c5 :: c6 :: some (.int x) :: t) st σ = exD X 188 166 (c0 :: c1 :: c2 :: c3 :: c4 :: c5 :: c6 :: some (.int x) :: t) (.int x :: st) σ := g_iload_7 rfl
theorem a188_166 {X : SX} {ls : LS0} {st : List Value} {σ : SH} {x y : Int32} : exD X 188 166 ls (.int y :: .int x :: st) σ = if y < x then exD X 188 172 ls st σ else exD X 188 169 ls st σ := g_if_icmp_gt rfl
theorem a188_169 {X : SX} {ls : LS0} {st : List Value} {σ : SH} : exD X 188 169 ls st σ = exD X 188 180 ls st σ := g_goto rfl
theorem a188_172 {X : SX} {c0 c1 c2 c3 c4 c5 c6 c7 c8 c9 : Option Value} {x : Int32} {t : LS0} {st : List Value} {σ : SH} : exD X 188 172 (c0 :: c1 :: c2 :: c3 :: c4 :: c5 :: c6 :: c7 :: c8 :: c9 :: some (.int x) :: t) st σ = exD X 188 174 (c0 :: c1 :: c2 :: c3 :: c4 :: c5 :: c6 :: c7 :: c8 :: c9 :: some (.int x) :: t) (.int x :: st) σ := g_iload_10 rfl
theorem a188_174 {X : SX} {c0 c1 c2 c3 c4 c5 c6 : Option Value} {x : Int32} {t : LS0} {st : List Value} {σ : SH} : exD X 188 174 (c0 :: c1 :: c2 :: c3 :: c4 :: c5 :: c6 :: t) (.int x :: st) σ = exD X 188 176 (stS 6 (.int x) (c0 :: c1 :: c2 :: c3 :: c4 :: c5 :: c6 :: t)) st σ := g_istore_6 rfl
theorem a188_176 {X : SX} {c0 c1 c2 c3 c4 c5 c6 c7 c8 c9 c10 : Option Value} {x : Int32} {t : LS0} {st : List Value} {σ : SH} : exD X 188 176 (c0 :: c1 :: c2 :: c3 :: c4 :: c5 :: c6 :: c7 :: c8 :: c9 :: c10 :: some (.int x) :: t) st σ = exD X 188 178 (c0 :: c1 :: c2 :: c3 :: c4 :: c5 :: c6 :: c7 :: c8 :: c9 :: c10 :: some (.int x) :: t) (.int x :: st) σ := g_iload_11 rfl
theorem a188_178 {X : SX} {c0 c1 c2 c3 c4 c5 c6 c7 : Option Value} {x : Int32} {t : LS0} {st : List Value} {σ : SH} : exD X 188 178 (c0 :: c1 :: c2 :: c3 :: c4 :: c5 :: c6 :: c7 :: t) (.int x :: st) σ = exD X 188 180 (stS 7 (.int x) (c0 :: c1 :: c2 :: c3 :: c4 :: c5 :: c6 :: c7 :: t)) st σ := g_istore_7 rfl
theorem a188_180 {X : SX} {c0 c1 c2 c3 c4 c5 c6 c7 : Option Value} {x : Int32} {t : LS0} {st : List Value} {σ : SH} : exD X 188 180 (c0 :: c1 :: c2 :: c3 :: c4 :: c5 :: c6 :: c7 :: some (.int x) :: t) st σ = exD X 188 183 (stS 8 (.int (x + 1)) (c0 :: c1 :: c2 :: c3 :: c4 :: c5 :: c6 :: c7 :: some (.int x) :: t)) st σ := g_iinc_8 rfl
theorem a188_183 {X : SX} {ls : LS0} {st : List Value} {σ : SH} : exD X 188 183 ls st σ = exD X 188 87 ls st σ := g_goto rfl
theorem a188_186 {X : SX} {c0 c1 c2 : Option Value} {x : Int32} {t : LS0} {st : List Value} {σ : SH} : exD X 188 186 (c0 :: c1 :: c2 :: some (.int x) :: t) st σ = exD X 188 187 (c0 :: c1 :: c2 :: some (.int x) :: t) (.int x :: st) σ := g_iload_3 rfl
theorem a188_187 {X : SX} {ls : LS0} {st : List Value} {σ : SH} {x : Int32} : exD X 188 187 ls (.int x :: st) σ = if x = 0 then exD X 188 190 ls st σ else exD X 188 195 ls st σ := g_ifCond_ne rfl
theorem a188_190 {X : SX} {c0 c1 c2 c3 c4 c5 : Option Value} {x : Int32} {t : LS0} {st : List Value} {σ : SH} : exD X 188 190 (c0 :: c1 :: c2 :: c3 :: c4 :: c5 :: some (.int x) :: t) st σ = exD X 188 192 (c0 :: c1 :: c2 :: c3 :: c4 :: c5 :: some (.int x) :: t) (.int x :: st) σ := g_iload_6 rfl
theorem a188_192 {X : SX} {ls : LS0} {st : List Value} {σ : SH} : exD X 188 192 ls st σ = exD X 188 197 ls st σ := g_goto rfl
theorem a188_195 {X : SX} {c0 c1 c2 c3 c4 c5 c6 : Option Value} {x : Int32} {t : LS0} {st : List Value} {σ : SH} : exD X 188 195 (c0 :: c1 :: c2 :: c3 :: c4 :: c5 :: c6 :: some (.int x) :: t) st σ = exD X 188 197 (c0 :: c1 :: c2 :: c3 :: c4 :: c5 :: c6 :: some (.int x) :: t) (.int x :: st) σ := g_iload_7 rfl
theorem a188_197 {X : SX} {ls : LS0} {σ : SH} {x : Int32} : exD X 188 197 ls [.int x] σ = some (some (.int x), σ) := g_iret rfl rfl
theorem a189_0 {X : SX} {ls : LS0} {st : List Value} {σ : SH} : exD X 189 0 ls st σ = exD X 189 1 ls (.long 1 :: st) σ := g_lconst (n := 1) rfl
theorem a189_1 {X : SX} {c0 c1 c2 c3 c4 : Option Value} {x : Int64} {t : LS0} {st : List Value} {σ : SH} : exD X 189 1 (c0 :: c1 :: c2 :: c3 :: c4 :: t) (.long x :: st) σ = exD X 189 2 (stD 3 (.long x) (c0 :: c1 :: c2 :: c3 :: c4 :: t)) st σ := g_lstore_3 rfl
theorem a189_2 {X : SX} {ls : LS0} {st : List Value} {σ : SH} : exD X 189 2 ls st σ = exD X 189 3 ls (.int 0 :: st) σ := g_iconst rfl
theorem a189_3 {X : SX} {c0 c1 c2 c3 c4 c5 : Option Value} {x : Int32} {t : LS0} {st : List Value} {σ : SH} : exD X 189 3 (c0 :: c1 :: c2 :: c3 :: c4 :: c5 :: t) (.int x :: st) σ = exD X 189 5 (stS 5 (.int x) (c0 :: c1 :: c2 :: c3 :: c4 :: c5 :: t)) st σ := g_istore_5 rfl
theorem a189_5 {X : SX} {c0 c1 c2 c3 c4 : Option Value} {x : Int32} {t : LS0} {st : List Value} {σ : SH} : exD X 189 5 (c0 :: c1 :: c2 :: c3 :: c4 :: some (.int x) :: t) st σ = exD X 189 7 (c0 :: c1 :: c2 :: c3 :: c4 :: some (.int x) :: t) (.int x :: st) σ := g_iload_5 rfl
theorem a189_7 {X : SX} {x : Nat} {t : LS0} {st : List Value} {σ : SH} : exD X 189 7 (some (.ref x) :: t) st σ = exD X 189 8 (some (.ref x) :: t) (.ref x :: st) σ := g_aload_0 rfl
theorem a189_8 {X : SX} {ls : LS0} {st : List Value} {I : Nat → Nat → Int32} {L : Nat → Nat → Int64} {b : Nat} (hb : hk (ms I L) b = some (0, 10)) : exD X 189 8 ls (.ref b :: st) (ms I L) = exD X 189 11 ls (.int (I b 38) :: st) (ms I L) := g_gfI (e := (10, 252, 10, 38)) rfl rfl (by decide +kernel) hb
theorem a189_11 {X : SX} {ls : LS0} {st : List Value} {σ : SH} {x y : Int32} : exD X 189 11 ls (.int y :: .int x :: st) σ = if y ≤ x then exD X 189 69 ls st σ else exD X 189 14 ls st σ := g_if_icmp_ge rfl
theorem a189_14 {X : SX} {x : Nat} {t : LS0} {st : List Value} {σ : SH} : exD X 189 14 (some (.ref x) :: t) st σ = exD X 189 15 (some (.ref x) :: t) (.ref x :: st) σ := g_aload_0 rfl
theorem a189_15 {X : SX} {ls : LS0} {st : List Value} {I : Nat → Nat → Int32} {L : Nat → Nat → Int64} {b : Nat} (hb : hk (ms I L) b = some (0, 10)) : exD X 189 15 ls (.ref b :: st) (ms I L) = gR (PP b 36) (fun q => exD X 189 18 ls (.ref q :: st) (ms I L)) := g_gfR (e := (10, 86, 10, 36)) rfl rfl (by decide +kernel) hb
theorem a189_18 {X : SX} {c0 c1 c2 c3 c4 : Option Value} {x : Int32} {t : LS0} {st : List Value} {σ : SH} : exD X 189 18 (c0 :: c1 :: c2 :: c3 :: c4 :: some (.int x) :: t) st σ = exD X 189 20 (c0 :: c1 :: c2 :: c3 :: c4 :: some (.int x) :: t) (.int x :: st) σ := g_iload_5 rfl
theorem a189_20 {X : SX} {ls : LS0} {st : List Value} {I : Nat → Nat → Int32} {L : Nat → Nat → Int64} {b : Nat} {i : Int32} (hb : b < 4096) : exD X 189 20 ls (.int i :: .ref b :: st) (ms I L) = iaR (hk (ms I L) b) i (exD X 189 21 ls (.int (I b i.toNatClampNeg) :: st) (ms I L)) := g_iald rfl hb
theorem a189_21 {X : SX} {ls : LS0} {st : List Value} {σ : SH} : exD X 189 21 ls st σ = exD X 189 23 ls (.int 9 :: st) σ := g_bipush rfl
theorem a189_23 {X : SX} {ls : LS0} {st : List Value} {σ : SH} {x y : Int32} : exD X 189 23 ls (.int y :: .int x :: st) σ = if x = y then exD X 189 26 ls st σ else exD X 189 29 ls st σ := g_if_icmp_ne rfl
theorem a189_26 {X : SX} {ls : LS0} {st : List Value} {σ : SH} : exD X 189 26 ls st σ = exD X 189 63 ls st σ := g_goto rfl
theorem a189_29 {X : SX} {c0 c1 c2 : Option Value} {x : Int64} {t : LS0} {st : List Value} {σ : SH} : exD X 189 29 (c0 :: c1 :: c2 :: some (.long x) :: t) st σ = exD X 189 30 (c0 :: c1 :: c2 :: some (.long x) :: t) (.long x :: st) σ := g_lload_3 rfl
theorem a189_30 {X : SX} {c0 : Option Value} {x : Int32} {t : LS0} {st : List Value} {σ : SH} : exD X 189 30 (c0 :: some (.int x) :: t) st σ = exD X 189 31 (c0 :: some (.int x) :: t) (.int x :: st) σ := g_iload_1 rfl
theorem a189_31 {X : SX} {c0 c1 c2 c3 c4 : Option Value} {x : Int32} {t : LS0} {st : List Value} {σ : SH} : exD X 189 31 (c0 :: c1 :: c2 :: c3 :: c4 :: some (.int x) :: t) st σ = exD X 189 33 (c0 :: c1 :: c2 :: c3 :: c4 :: some (.int x) :: t) (.int x :: st) σ := g_iload_5 rfl
theorem a189_33 {X : SX} {ls : LS0} {st : List Value} {σ : SH} {x y : Int32} : exD X 189 33 ls (.int y :: .int x :: st) σ = exD X 189 34 ls (.int (x >>> (y &&& 31)) :: st) σ := g_ishr rfl
theorem a189_34 {X : SX} {ls : LS0} {st : List Value} {σ : SH} : exD X 189 34 ls st σ = exD X 189 35 ls (.int 1 :: st) σ := g_iconst rfl
theorem a189_35 {X : SX} {ls : LS0} {st : List Value} {σ : SH} {x y : Int32} : exD X 189 35 ls (.int y :: .int x :: st) σ = exD X 189 36 ls (.int (x &&& y) :: st) σ := g_iand rfl
theorem a189_36 {X : SX} {c0 c1 : Option Value} {x : Int32} {t : LS0} {st : List Value} {σ : SH} : exD X 189 36 (c0 :: c1 :: some (.int x) :: t) st σ = exD X 189 37 (c0 :: c1 :: some (.int x) :: t) (.int x :: st) σ := g_iload_2 rfl
theorem a189_37 {X : SX} {c0 c1 c2 c3 c4 : Option Value} {x : Int32} {t : LS0} {st : List Value} {σ : SH} : exD X 189 37 (c0 :: c1 :: c2 :: c3 :: c4 :: some (.int x) :: t) st σ = exD X 189 39 (c0 :: c1 :: c2 :: c3 :: c4 :: some (.int x) :: t) (.int x :: st) σ := g_iload_5 rfl
theorem a189_39 {X : SX} {ls : LS0} {st : List Value} {σ : SH} {x y : Int32} : exD X 189 39 ls (.int y :: .int x :: st) σ = exD X 189 40 ls (.int (x >>> (y &&& 31)) :: st) σ := g_ishr rfl
theorem a189_40 {X : SX} {ls : LS0} {st : List Value} {σ : SH} : exD X 189 40 ls st σ = exD X 189 41 ls (.int 1 :: st) σ := g_iconst rfl
theorem a189_41 {X : SX} {ls : LS0} {st : List Value} {σ : SH} {x y : Int32} : exD X 189 41 ls (.int y :: .int x :: st) σ = exD X 189 42 ls (.int (x &&& y) :: st) σ := g_iand rfl
theorem a189_42 {X : SX} {ls : LS0} {st : List Value} {σ : SH} {x y : Int32} : exD X 189 42 ls (.int y :: .int x :: st) σ = if x = y then exD X 189 45 ls st σ else exD X 189 56 ls st σ := g_if_icmp_ne rfl
theorem a189_45 {X : SX} {ls : LS0} {st : List Value} {σ : SH} : exD X 189 45 ls st σ = exD X 189 47 ls (.int 100 :: st) σ := g_bipush rfl
theorem a189_47 {X : SX} {x : Nat} {t : LS0} {st : List Value} {σ : SH} : exD X 189 47 (some (.ref x) :: t) st σ = exD X 189 48 (some (.ref x) :: t) (.ref x :: st) σ := g_aload_0 rfl
theorem a189_48 {X : SX} {ls : LS0} {st : List Value} {I : Nat → Nat → Int32} {L : Nat → Nat → Int64} {b : Nat} (hb : hk (ms I L) b = some (0, 10)) : exD X 189 48 ls (.ref b :: st) (ms I L) = exD X 189 51 ls (.int (I b 19) :: st) (ms I L) := g_gfI (e := (10, 56, 10, 19)) rfl rfl (by decide +kernel) hb
theorem a189_51 {X : SX} {ls : LS0} {st : List Value} {σ : SH} {x y : Int32} : exD X 189 51 ls (.int y :: .int x :: st) σ = exD X 189 52 ls (.int (x - y) :: st) σ := g_isub rfl
theorem a189_52 {X : SX} {ls : LS0} {st : List Value} {σ : SH} {x : Int32} : exD X 189 52 ls (.int x :: st) σ = exD X 189 53 ls (.long x.toInt64 :: st) σ := g_i2l rfl
theorem a189_53 {X : SX} {ls : LS0} {st : List Value} {σ : SH} : exD X 189 53 ls st σ = exD X 189 61 ls st σ := g_goto rfl
theorem a189_56 {X : SX} {x : Nat} {t : LS0} {st : List Value} {σ : SH} : exD X 189 56 (some (.ref x) :: t) st σ = exD X 189 57 (some (.ref x) :: t) (.ref x :: st) σ := g_aload_0 rfl
theorem a189_57 {X : SX} {ls : LS0} {st : List Value} {I : Nat → Nat → Int32} {L : Nat → Nat → Int64} {b : Nat} (hb : hk (ms I L) b = some (0, 10)) : exD X 189 57 ls (.ref b :: st) (ms I L) = exD X 189 60 ls (.int (I b 19) :: st) (ms I L) := g_gfI (e := (10, 56, 10, 19)) rfl rfl (by decide +kernel) hb
theorem a189_60 {X : SX} {ls : LS0} {st : List Value} {σ : SH} {x : Int32} : exD X 189 60 ls (.int x :: st) σ = exD X 189 61 ls (.long x.toInt64 :: st) σ := g_i2l rfl
theorem a189_61 {X : SX} {ls : LS0} {st : List Value} {σ : SH} {x y : Int64} : exD X 189 61 ls (.long y :: .long x :: st) σ = exD X 189 62 ls (.long (x * y) :: st) σ := g_lmul rfl
theorem a189_62 {X : SX} {c0 c1 c2 c3 c4 : Option Value} {x : Int64} {t : LS0} {st : List Value} {σ : SH} : exD X 189 62 (c0 :: c1 :: c2 :: c3 :: c4 :: t) (.long x :: st) σ = exD X 189 63 (stD 3 (.long x) (c0 :: c1 :: c2 :: c3 :: c4 :: t)) st σ := g_lstore_3 rfl
theorem a189_63 {X : SX} {c0 c1 c2 c3 c4 : Option Value} {x : Int32} {t : LS0} {st : List Value} {σ : SH} : exD X 189 63 (c0 :: c1 :: c2 :: c3 :: c4 :: some (.int x) :: t) st σ = exD X 189 66 (stS 5 (.int (x + 1)) (c0 :: c1 :: c2 :: c3 :: c4 :: some (.int x) :: t)) st σ := g_iinc_5 rfl
theorem a189_66 {X : SX} {ls : LS0} {st : List Value} {σ : SH} : exD X 189 66 ls st σ = exD X 189 5 ls st σ := g_goto rfl
theorem a189_69 {X : SX} {c0 c1 c2 : Option Value} {x : Int64} {t : LS0} {st : List Value} {σ : SH} : exD X 189 69 (c0 :: c1 :: c2 :: some (.long x) :: t) st σ = exD X 189 70 (c0 :: c1 :: c2 :: some (.long x) :: t) (.long x :: st) σ := g_lload_3 rfl
theorem a189_70 {X : SX} {ls : LS0} {σ : SH} {x : Int64} : exD X 189 70 ls [.long x] σ = some (some (.long x), σ) := g_lret rfl rfl
theorem a190_0 {X : SX} {x : Nat} {t : LS0} {st : List Value} {σ : SH} : exD X 190 0 (some (.ref x) :: t) st σ = exD X 190 1 (some (.ref x) :: t) (.ref x :: st) σ := g_aload_0 rfl
theorem a190_1 {X : SX} {ls : LS0} {st : List Value} {I : Nat → Nat → Int32} {L : Nat → Nat → Int64} {b : Nat} (hb : hk (ms I L) b = some (0, 10)) (h8 : cS st ≤ 8) : exD X 190 1 ls (.ref b :: st) (ms I L) = cR (caD X 181 [.ref b] (ms I L)) (fun w s => exD X 190 4 ls (psh w st) s) := g_cv rfl rfl rfl (Nat.le_of_ble_eq_true rfl) h8 hb
theorem a190_4 {X : SX} {ls : LS0} {st : List Value} {σ : SH} : exD X 190 4 ls st σ = exD X 190 5 ls (.long 0 :: st) σ := g_lconst (n := 0) rfl
theorem a190_5 {X : SX} {c0 c1 c2 c3 c4 : Option Value} {x : Int64} {t : LS0} {st : List Value} {σ : SH} : exD X 190 5 (c0 :: c1 :: c2 :: c3 :: c4 :: t) (.long x :: st) σ = exD X 190 6 (stD 3 (.long x) (c0 :: c1 :: c2 :: c3 :: c4 :: t)) st σ := g_lstore_3 rfl
theorem a190_6 {X : SX} {ls : LS0} {st : List Value} {σ : SH} : exD X 190 6 ls st σ = exD X 190 7 ls (.int 0 :: st) σ := g_iconst rfl
theorem a190_7 {X : SX} {c0 c1 c2 c3 c4 c5 : Option Value} {x : Int32} {t : LS0} {st : List Value} {σ : SH} : exD X 190 7 (c0 :: c1 :: c2 :: c3 :: c4 :: c5 :: t) (.int x :: st) σ = exD X 190 9 (stS 5 (.int x) (c0 :: c1 :: c2 :: c3 :: c4 :: c5 :: t)) st σ := g_istore_5 rfl
theorem a190_9 {X : SX} {c0 c1 c2 c3 c4 : Option Value} {x : Int32} {t : LS0} {st : List Value} {σ : SH} : exD X 190 9 (c0 :: c1 :: c2 :: c3 :: c4 :: some (.int x) :: t) st σ = exD X 190 11 (c0 :: c1 :: c2 :: c3 :: c4 :: some (.int x) :: t) (.int x :: st) σ := g_iload_5 rfl
theorem a190_11 {X : SX} {x : Nat} {t : LS0} {st : List Value} {σ : SH} : exD X 190 11 (some (.ref x) :: t) st σ = exD X 190 12 (some (.ref x) :: t) (.ref x :: st) σ := g_aload_0 rfl
theorem a190_12 {X : SX} {ls : LS0} {st : List Value} {I : Nat → Nat → Int32} {L : Nat → Nat → Int64} {b : Nat} (hb : hk (ms I L) b = some (0, 10)) : exD X 190 12 ls (.ref b :: st) (ms I L) = exD X 190 15 ls (.int (I b 14) :: st) (ms I L) := g_gfI (e := (10, 99, 10, 14)) rfl rfl (by decide +kernel) hb
theorem a190_15 {X : SX} {ls : LS0} {st : List Value} {σ : SH} {x y : Int32} : exD X 190 15 ls (.int y :: .int x :: st) σ = if y ≤ x then exD X 190 53 ls st σ else exD X 190 18 ls st σ := g_if_icmp_ge rfl
theorem a190_18 {X : SX} {x : Nat} {t : LS0} {st : List Value} {σ : SH} : exD X 190 18 (some (.ref x) :: t) st σ = exD X 190 19 (some (.ref x) :: t) (.ref x :: st) σ := g_aload_0 rfl
theorem a190_19 {X : SX} {ls : LS0} {st : List Value} {I : Nat → Nat → Int32} {L : Nat → Nat → Int64} {b : Nat} (hb : hk (ms I L) b = some (0, 10)) : exD X 190 19 ls (.ref b :: st) (ms I L) = gR (PP b 40) (fun q => exD X 190 22 ls (.ref q :: st) (ms I L)) := g_gfR (e := (10, 92, 10, 40)) rfl rfl (by decide +kernel) hb
theorem a190_22 {X : SX} {c0 c1 c2 c3 c4 : Option Value} {x : Int32} {t : LS0} {st : List Value} {σ : SH} : exD X 190 22 (c0 :: c1 :: c2 :: c3 :: c4 :: some (.int x) :: t) st σ = exD X 190 24 (c0 :: c1 :: c2 :: c3 :: c4 :: some (.int x) :: t) (.int x :: st) σ := g_iload_5 rfl
theorem a190_24 {X : SX} {x : Nat} {t : LS0} {st : List Value} {σ : SH} : exD X 190 24 (some (.ref x) :: t) st σ = exD X 190 25 (some (.ref x) :: t) (.ref x :: st) σ := g_aload_0 rfl
theorem a190_25 {X : SX} {x : Nat} {t : LS0} {st : List Value} {σ : SH} : exD X 190 25 (some (.ref x) :: t) st σ = exD X 190 26 (some (.ref x) :: t) (.ref x :: st) σ := g_aload_0 rfl
theorem a190_26 {X : SX} {c0 : Option Value} {x : Int32} {t : LS0} {st : List Value} {σ : SH} : exD X 190 26 (c0 :: some (.int x) :: t) st σ = exD X 190 27 (c0 :: some (.int x) :: t) (.int x :: st) σ := g_iload_1 rfl
theorem a190_27 {X : SX} {c0 c1 c2 c3 c4 : Option Value} {x : Int32} {t : LS0} {st : List Value} {σ : SH} : exD X 190 27 (c0 :: c1 :: c2 :: c3 :: c4 :: some (.int x) :: t) st σ = exD X 190 29 (c0 :: c1 :: c2 :: c3 :: c4 :: some (.int x) :: t) (.int x :: st) σ := g_iload_5 rfl
theorem a190_29 {X : SX} {ls : LS0} {st : List Value} {I : Nat → Nat → Int32} {L : Nat → Nat → Int64} {w0 : Int32} {w1 : Int32} {b : Nat} (hb : hk (ms I L) b = some (0, 10)) (h8 : cS st ≤ 8) : exD X 190 29 ls (.int w1 :: .int w0 :: .ref b :: st) (ms I L) = cR (caD X 184 [.ref b, .int w0, .int w1] (ms I L)) (fun w s => exD X 190 32 ls (psh w st) s) := g_cv rfl rfl rfl (Nat.le_of_ble_eq_true rfl) h8 hb
theorem a190_32 {X : SX} {c0 c1 : Option Value} {x : Int32} {t : LS0} {st : List Value} {σ : SH} : exD X 190 32 (c0 :: c1 :: some (.int x) :: t) st σ = exD X 190 33 (c0 :: c1 :: some (.int x) :: t) (.int x :: st) σ := g_iload_2 rfl
theorem a190_33 {X : SX} {ls : LS0} {st : List Value} {I : Nat → Nat → Int32} {L : Nat → Nat → Int64} {w0 : Int32} {w1 : Int32} {b : Nat} (hb : hk (ms I L) b = some (0, 10)) (h8 : cS st ≤ 8) : exD X 190 33 ls (.int w1 :: .int w0 :: .ref b :: st) (ms I L) = cR (caD X 189 [.ref b, .int w0, .int w1] (ms I L)) (fun w s => exD X 190 36 ls (psh w st) s) := g_cv rfl rfl rfl (Nat.le_of_ble_eq_true rfl) h8 hb
theorem a190_36 {X : SX} {ls : LS0} {st : List Value} {I : Nat → Nat → Int32} {L : Nat → Nat → Int64} {b : Nat} {i : Int32} {x : Int64} : exD X 190 36 ls (.long x :: .int i :: .ref b :: st) (ms I L) = laR (hk (ms I L) b) i (exD X 190 37 ls st (ms I (u2 L b i.toNatClampNeg x))) := g_last rfl
theorem a190_37 {X : SX} {c0 c1 c2 : Option Value} {x : Int64} {t : LS0} {st : List Value} {σ : SH} : exD X 190 37 (c0 :: c1 :: c2 :: some (.long x) :: t) st σ = exD X 190 38 (c0 :: c1 :: c2 :: some (.long x) :: t) (.long x :: st) σ := g_lload_3 rfl
theorem a190_38 {X : SX} {x : Nat} {t : LS0} {st : List Value} {σ : SH} : exD X 190 38 (some (.ref x) :: t) st σ = exD X 190 39 (some (.ref x) :: t) (.ref x :: st) σ := g_aload_0 rfl
theorem a190_39 {X : SX} {ls : LS0} {st : List Value} {I : Nat → Nat → Int32} {L : Nat → Nat → Int64} {b : Nat} (hb : hk (ms I L) b = some (0, 10)) : exD X 190 39 ls (.ref b :: st) (ms I L) = gR (PP b 40) (fun q => exD X 190 42 ls (.ref q :: st) (ms I L)) := g_gfR (e := (10, 92, 10, 40)) rfl rfl (by decide +kernel) hb
theorem a190_42 {X : SX} {c0 c1 c2 c3 c4 : Option Value} {x : Int32} {t : LS0} {st : List Value} {σ : SH} : exD X 190 42 (c0 :: c1 :: c2 :: c3 :: c4 :: some (.int x) :: t) st σ = exD X 190 44 (c0 :: c1 :: c2 :: c3 :: c4 :: some (.int x) :: t) (.int x :: st) σ := g_iload_5 rfl
theorem a190_44 {X : SX} {ls : LS0} {st : List Value} {I : Nat → Nat → Int32} {L : Nat → Nat → Int64} {b : Nat} {i : Int32} : exD X 190 44 ls (.int i :: .ref b :: st) (ms I L) = laR (hk (ms I L) b) i (exD X 190 45 ls (.long (L b i.toNatClampNeg) :: st) (ms I L)) := g_lald rfl
theorem a190_45 {X : SX} {ls : LS0} {st : List Value} {σ : SH} {x y : Int64} : exD X 190 45 ls (.long y :: .long x :: st) σ = exD X 190 46 ls (.long (x + y) :: st) σ := g_ladd rfl
theorem a190_46 {X : SX} {c0 c1 c2 c3 c4 : Option Value} {x : Int64} {t : LS0} {st : List Value} {σ : SH} : exD X 190 46 (c0 :: c1 :: c2 :: c3 :: c4 :: t) (.long x :: st) σ = exD X 190 47 (stD 3 (.long x) (c0 :: c1 :: c2 :: c3 :: c4 :: t)) st σ := g_lstore_3 rfl
theorem a190_47 {X : SX} {c0 c1 c2 c3 c4 : Option Value} {x : Int32} {t : LS0} {st : List Value} {σ : SH} : exD X 190 47 (c0 :: c1 :: c2 :: c3 :: c4 :: some (.int x) :: t) st σ = exD X 190 50 (stS 5 (.int (x + 1)) (c0 :: c1 :: c2 :: c3 :: c4 :: some (.int x) :: t)) st σ := g_iinc_5 rfl
theorem a190_50 {X : SX} {ls : LS0} {st : List Value} {σ : SH} : exD X 190 50 ls st σ = exD X 190 9 ls st σ := g_goto rfl
theorem a190_53 {X : SX} {c0 c1 c2 : Option Value} {x : Int64} {t : LS0} {st : List Value} {σ : SH} : exD X 190 53 (c0 :: c1 :: c2 :: some (.long x) :: t) st σ = exD X 190 54 (c0 :: c1 :: c2 :: some (.long x) :: t) (.long x :: st) σ := g_lload_3 rfl
theorem a190_54 {X : SX} {ls : LS0} {σ : SH} {x : Int64} : exD X 190 54 ls [.long x] σ = some (some (.long x), σ) := g_lret rfl rfl
theorem a191_0 {X : SX} {x : Int64} {t : LS0} {st : List Value} {σ : SH} : exD X 191 0 (some (.long x) :: t) st σ = exD X 191 1 (some (.long x) :: t) (.long x :: st) σ := g_lload_0 rfl
theorem a191_1 {X : SX} {c0 c1 c2 c3 c4 c5 : Option Value} {x : Int64} {t : LS0} {st : List Value} {σ : SH} : exD X 191 1 (c0 :: c1 :: c2 :: c3 :: c4 :: c5 :: t) (.long x :: st) σ = exD X 191 3 (stD 4 (.long x) (c0 :: c1 :: c2 :: c3 :: c4 :: c5 :: t)) st σ := g_lstore_4 rfl
theorem a191_3 {X : SX} {c0 c1 : Option Value} {x : Int64} {t : LS0} {st : List Value} {σ : SH} : exD X 191 3 (c0 :: c1 :: some (.long x) :: t) st σ = exD X 191 4 (c0 :: c1 :: some (.long x) :: t) (.long x :: st) σ := g_lload_2 rfl
theorem a191_4 {X : SX} {c0 c1 c2 c3 c4 c5 c6 c7 : Option Value} {x : Int64} {t : LS0} {st : List Value} {σ : SH} : exD X 191 4 (c0 :: c1 :: c2 :: c3 :: c4 :: c5 :: c6 :: c7 :: t) (.long x :: st) σ = exD X 191 6 (stD 6 (.long x) (c0 :: c1 :: c2 :: c3 :: c4 :: c5 :: c6 :: c7 :: t)) st σ := g_lstore_6 rfl
theorem a191_6 {X : SX} {c0 c1 c2 c3 c4 c5 : Option Value} {x : Int64} {t : LS0} {st : List Value} {σ : SH} : exD X 191 6 (c0 :: c1 :: c2 :: c3 :: c4 :: c5 :: some (.long x) :: t) st σ = exD X 191 8 (c0 :: c1 :: c2 :: c3 :: c4 :: c5 :: some (.long x) :: t) (.long x :: st) σ := g_lload_6 rfl
theorem a191_8 {X : SX} {ls : LS0} {st : List Value} {σ : SH} : exD X 191 8 ls st σ = exD X 191 9 ls (.long 0 :: st) σ := g_lconst (n := 0) rfl
theorem a191_9 {X : SX} {ls : LS0} {st : List Value} {σ : SH} {x y : Int64} : exD X 191 9 ls (.long y :: .long x :: st) σ = exD X 191 10 ls (.int (lg_cmp x y) :: st) σ := g_lcmp rfl
theorem a191_10 {X : SX} {ls : LS0} {st : List Value} {σ : SH} {x : Int32} : exD X 191 10 ls (.int x :: st) σ = if x = 0 then exD X 191 31 ls st σ else exD X 191 13 ls st σ := g_ifCond_eq rfl
theorem a191_13 {X : SX} {c0 c1 c2 c3 : Option Value} {x : Int64} {t : LS0} {st : List Value} {σ : SH} : exD X 191 13 (c0 :: c1 :: c2 :: c3 :: some (.long x) :: t) st σ = exD X 191 15 (c0 :: c1 :: c2 :: c3 :: some (.long x) :: t) (.long x :: st) σ := g_lload_4 rfl
theorem a191_15 {X : SX} {c0 c1 c2 c3 c4 c5 : Option Value} {x : Int64} {t : LS0} {st : List Value} {σ : SH} : exD X 191 15 (c0 :: c1 :: c2 :: c3 :: c4 :: c5 :: some (.long x) :: t) st σ = exD X 191 17 (c0 :: c1 :: c2 :: c3 :: c4 :: c5 :: some (.long x) :: t) (.long x :: st) σ := g_lload_6 rfl
theorem a191_17 {X : SX} {ls : LS0} {st : List Value} {σ : SH} {x y : Int64} : exD X 191 17 ls (.long y :: .long x :: st) σ = if y = 0 then none else exD X 191 18 ls (.long (x - x / y * y) :: st) σ := g_lrem rfl
theorem a191_18 {X : SX} {c0 c1 c2 c3 c4 c5 c6 c7 c8 c9 : Option Value} {x : Int64} {t : LS0} {st : List Value} {σ : SH} : exD X 191 18 (c0 :: c1 :: c2 :: c3 :: c4 :: c5 :: c6 :: c7 :: c8 :: c9 :: t) (.long x :: st) σ = exD X 191 20 (stD 8 (.long x) (c0 :: c1 :: c2 :: c3 :: c4 :: c5 :: c6 :: c7 :: c8 :: c9 :: t)) st σ := g_lstore_8 rfl
theorem a191_20 {X : SX} {c0 c1 c2 c3 c4 c5 : Option Value} {x : Int64} {t : LS0} {st : List Value} {σ : SH} : exD X 191 20 (c0 :: c1 :: c2 :: c3 :: c4 :: c5 :: some (.long x) :: t) st σ = exD X 191 22 (c0 :: c1 :: c2 :: c3 :: c4 :: c5 :: some (.long x) :: t) (.long x :: st) σ := g_lload_6 rfl
theorem a191_22 {X : SX} {c0 c1 c2 c3 c4 c5 : Option Value} {x : Int64} {t : LS0} {st : List Value} {σ : SH} : exD X 191 22 (c0 :: c1 :: c2 :: c3 :: c4 :: c5 :: t) (.long x :: st) σ = exD X 191 24 (stD 4 (.long x) (c0 :: c1 :: c2 :: c3 :: c4 :: c5 :: t)) st σ := g_lstore_4 rfl
theorem a191_24 {X : SX} {c0 c1 c2 c3 c4 c5 c6 c7 : Option Value} {x : Int64} {t : LS0} {st : List Value} {σ : SH} : exD X 191 24 (c0 :: c1 :: c2 :: c3 :: c4 :: c5 :: c6 :: c7 :: some (.long x) :: t) st σ = exD X 191 26 (c0 :: c1 :: c2 :: c3 :: c4 :: c5 :: c6 :: c7 :: some (.long x) :: t) (.long x :: st) σ := g_lload_8 rfl
theorem a191_26 {X : SX} {c0 c1 c2 c3 c4 c5 c6 c7 : Option Value} {x : Int64} {t : LS0} {st : List Value} {σ : SH} : exD X 191 26 (c0 :: c1 :: c2 :: c3 :: c4 :: c5 :: c6 :: c7 :: t) (.long x :: st) σ = exD X 191 28 (stD 6 (.long x) (c0 :: c1 :: c2 :: c3 :: c4 :: c5 :: c6 :: c7 :: t)) st σ := g_lstore_6 rfl
theorem a191_28 {X : SX} {ls : LS0} {st : List Value} {σ : SH} : exD X 191 28 ls st σ = exD X 191 6 ls st σ := g_goto rfl
theorem a191_31 {X : SX} {c0 c1 c2 c3 : Option Value} {x : Int64} {t : LS0} {st : List Value} {σ : SH} : exD X 191 31 (c0 :: c1 :: c2 :: c3 :: some (.long x) :: t) st σ = exD X 191 33 (c0 :: c1 :: c2 :: c3 :: some (.long x) :: t) (.long x :: st) σ := g_lload_4 rfl
theorem a191_33 {X : SX} {ls : LS0} {σ : SH} {x : Int64} : exD X 191 33 ls [.long x] σ = some (some (.long x), σ) := g_lret rfl rfl
theorem a192_0 {X : SX} {c0 c1 : Option Value} {x : Int64} {t : LS0} {st : List Value} {σ : SH} : exD X 192 0 (c0 :: c1 :: some (.long x) :: t) st σ = exD X 192 1 (c0 :: c1 :: some (.long x) :: t) (.long x :: st) σ := g_lload_2 rfl
theorem a192_1 {X : SX} {ls : LS0} {st : List Value} {σ : SH} : exD X 192 1 ls st σ = exD X 192 2 ls (.long 0 :: st) σ := g_lconst (n := 0) rfl
theorem a192_2 {X : SX} {ls : LS0} {st : List Value} {σ : SH} {x y : Int64} : exD X 192 2 ls (.long y :: .long x :: st) σ = exD X 192 3 ls (.int (lg_cmp x y) :: st) σ := g_lcmp rfl
theorem a192_3 {X : SX} {ls : LS0} {st : List Value} {σ : SH} {x : Int32} : exD X 192 3 ls (.int x :: st) σ = if x = 0 then exD X 192 6 ls st σ else exD X 192 12 ls st σ := g_ifCond_ne rfl
theorem a192_6 {X : SX} {c0 c1 c2 c3 : Option Value} {x : Int32} {t : LS0} {st : List Value} {σ : SH} : exD X 192 6 (c0 :: c1 :: c2 :: c3 :: some (.int x) :: t) st σ = exD X 192 8 (c0 :: c1 :: c2 :: c3 :: some (.int x) :: t) (.int x :: st) σ := g_iload_4 rfl
theorem a192_8 {X : SX} {ls : LS0} {st : List Value} {σ : SH} {x : Int32} : exD X 192 8 ls (.int x :: st) σ = exD X 192 9 ls (.long x.toInt64 :: st) σ := g_i2l rfl
theorem a192_9 {X : SX} {ls : LS0} {st : List Value} {σ : SH} : exD X 192 9 ls st σ = exD X 192 28 ls st σ := g_goto rfl
theorem a192_12 {X : SX} {c0 c1 c2 c3 : Option Value} {x : Int32} {t : LS0} {st : List Value} {σ : SH} : exD X 192 12 (c0 :: c1 :: c2 :: c3 :: some (.int x) :: t) st σ = exD X 192 14 (c0 :: c1 :: c2 :: c3 :: some (.int x) :: t) (.int x :: st) σ := g_iload_4 rfl
theorem a192_14 {X : SX} {ls : LS0} {st : List Value} {σ : SH} {x : Int32} : exD X 192 14 ls (.int x :: st) σ = if x = 0 then exD X 192 17 ls st σ else exD X 192 21 ls st σ := g_ifCond_ne rfl
theorem a192_17 {X : SX} {x : Int64} {t : LS0} {st : List Value} {σ : SH} : exD X 192 17 (some (.long x) :: t) st σ = exD X 192 18 (some (.long x) :: t) (.long x :: st) σ := g_lload_0 rfl
theorem a192_18 {X : SX} {ls : LS0} {st : List Value} {σ : SH} : exD X 192 18 ls st σ = exD X 192 22 ls st σ := g_goto rfl
theorem a192_21 {X : SX} {c0 c1 : Option Value} {x : Int64} {t : LS0} {st : List Value} {σ : SH} : exD X 192 21 (c0 :: c1 :: some (.long x) :: t) st σ = exD X 192 22 (c0 :: c1 :: some (.long x) :: t) (.long x :: st) σ := g_lload_2 rfl
theorem a192_22 {X : SX} {x : Int64} {t : LS0} {st : List Value} {σ : SH} : exD X 192 22 (some (.long x) :: t) st σ = exD X 192 23 (some (.long x) :: t) (.long x :: st) σ := g_lload_0 rfl
theorem a192_23 {X : SX} {c0 c1 : Option Value} {x : Int64} {t : LS0} {st : List Value} {σ : SH} : exD X 192 23 (c0 :: c1 :: some (.long x) :: t) st σ = exD X 192 24 (c0 :: c1 :: some (.long x) :: t) (.long x :: st) σ := g_lload_2 rfl
theorem a192_24 {X : SX} {ls : LS0} {st : List Value} {σ : SH} {w0 : Int64} {w1 : Int64} (h8 : cS st ≤ 8) : exD X 192 24 ls (.long w1 :: .long w0 :: st) σ = cR (caD X 191 [.long w0, .long w1] σ) (fun w s => exD X 192 27 ls (psh w st) s) := g_cs rfl rfl (Or.inl rfl) rfl (Nat.le_of_ble_eq_true rfl) h8
theorem a192_27 {X : SX} {ls : LS0} {st : List Value} {σ : SH} {x y : Int64} : exD X 192 27 ls (.long y :: .long x :: st) σ = if y = 0 then none else exD X 192 28 ls (.long (x / y) :: st) σ := g_ldiv rfl
theorem a192_28 {X : SX} {ls : LS0} {σ : SH} {x : Int64} : exD X 192 28 ls [.long x] σ = some (some (.long x), σ) := g_lret rfl rfl
theorem a193_0 {X : SX} {x : Nat} {t : LS0} {st : List Value} {σ : SH} : exD X 193 0 (some (.ref x) :: t) st σ = exD X 193 1 (some (.ref x) :: t) (.ref x :: st) σ := g_aload_0 rfl
theorem a193_1 {X : SX} {c0 : Option Value} {x : Int32} {t : LS0} {st : List Value} {σ : SH} : exD X 193 1 (c0 :: some (.int x) :: t) st σ = exD X 193 2 (c0 :: some (.int x) :: t) (.int x :: st) σ := g_iload_1 rfl
theorem a193_2 {X : SX} {ls : LS0} {st : List Value} {I : Nat → Nat → Int32} {L : Nat → Nat → Int64} {w0 : Int32} {b : Nat} (hb : hk (ms I L) b = some (0, 10)) (h8 : cS st ≤ 8) : exD X 193 2 ls (.int w0 :: .ref b :: st) (ms I L) = cR (caD X 127 [.ref b, .int w0] (ms I L)) (fun w s => exD X 193 5 ls (psh w st) s) := g_cv rfl rfl rfl (Nat.le_of_ble_eq_true rfl) h8 hb
theorem a193_5 {X : SX} {ls : LS0} {st : List Value} {σ : SH} {x : Int32} : exD X 193 5 ls (.int x :: st) σ = if x = 0 then exD X 193 16 ls st σ else exD X 193 8 ls st σ := g_ifCond_eq rfl
theorem a193_8 {X : SX} {x : Nat} {t : LS0} {st : List Value} {σ : SH} : exD X 193 8 (some (.ref x) :: t) st σ = exD X 193 9 (some (.ref x) :: t) (.ref x :: st) σ := g_aload_0 rfl
theorem a193_9 {X : SX} {c0 c1 : Option Value} {x : Int32} {t : LS0} {st : List Value} {σ : SH} : exD X 193 9 (c0 :: c1 :: some (.int x) :: t) st σ = exD X 193 10 (c0 :: c1 :: some (.int x) :: t) (.int x :: st) σ := g_iload_2 rfl
theorem a193_10 {X : SX} {ls : LS0} {st : List Value} {I : Nat → Nat → Int32} {L : Nat → Nat → Int64} {w0 : Int32} {b : Nat} (hb : hk (ms I L) b = some (0, 10)) (h8 : cS st ≤ 8) : exD X 193 10 ls (.int w0 :: .ref b :: st) (ms I L) = cR (caD X 128 [.ref b, .int w0] (ms I L)) (fun w s => exD X 193 13 ls (psh w st) s) := g_cv rfl rfl rfl (Nat.le_of_ble_eq_true rfl) h8 hb
theorem a193_13 {X : SX} {ls : LS0} {st : List Value} {σ : SH} {x : Int32} : exD X 193 13 ls (.int x :: st) σ = if x = 0 then exD X 193 16 ls st σ else exD X 193 20 ls st σ := g_ifCond_ne rfl
theorem a193_16 {X : SX} {ls : LS0} {st : List Value} {σ : SH} : exD X 193 16 ls st σ = exD X 193 17 ls (.int (-1) :: st) σ := g_iconst rfl
theorem a193_17 {X : SX} {ls : LS0} {st : List Value} {σ : SH} : exD X 193 17 ls st σ = exD X 193 43 ls st σ := g_goto rfl
theorem a193_20 {X : SX} {c0 c1 c2 c3 : Option Value} {x : Int32} {t : LS0} {st : List Value} {σ : SH} : exD X 193 20 (c0 :: c1 :: c2 :: c3 :: some (.int x) :: t) st σ = exD X 193 22 (c0 :: c1 :: c2 :: c3 :: some (.int x) :: t) (.int x :: st) σ := g_iload_4 rfl
theorem a193_22 {X : SX} {ls : LS0} {st : List Value} {σ : SH} : exD X 193 22 ls st σ = exD X 193 23 ls (.int 0 :: st) σ := g_iconst rfl
theorem a193_23 {X : SX} {ls : LS0} {st : List Value} {σ : SH} : exD X 193 23 ls st σ = exD X 193 24 ls (.int 1 :: st) σ := g_iconst rfl
theorem a193_24 {X : SX} {ls : LS0} {st : List Value} {σ : SH} {w0 : Int32} {w1 : Int32} {w2 : Int32} (h8 : cS st ≤ 8) : exD X 193 24 ls (.int w2 :: .int w1 :: .int w0 :: st) σ = cR (caD X 124 [.int w0, .int w1, .int w2] σ) (fun w s => exD X 193 27 ls (psh w st) s) := g_cs rfl rfl (Or.inl rfl) rfl (Nat.le_of_ble_eq_true rfl) h8
theorem a193_27 {X : SX} {ls : LS0} {st : List Value} {σ : SH} {x : Int32} : exD X 193 27 ls (.int x :: st) σ = if x = 0 then exD X 193 30 ls st σ else exD X 193 35 ls st σ := g_ifCond_ne rfl
theorem a193_30 {X : SX} {ls : LS0} {st : List Value} {σ : SH} : exD X 193 30 ls st σ = exD X 193 32 ls (.int (-2) :: st) σ := g_bipush rfl
theorem a193_32 {X : SX} {ls : LS0} {st : List Value} {σ : SH} : exD X 193 32 ls st σ = exD X 193 43 ls st σ := g_goto rfl
theorem a193_35 {X : SX} {c0 c1 c2 : Option Value} {x : Int32} {t : LS0} {st : List Value} {σ : SH} : exD X 193 35 (c0 :: c1 :: c2 :: some (.int x) :: t) st σ = exD X 193 36 (c0 :: c1 :: c2 :: some (.int x) :: t) (.int x :: st) σ := g_iload_3 rfl
theorem a193_36 {X : SX} {ls : LS0} {st : List Value} {σ : SH} : exD X 193 36 ls st σ = exD X 193 37 ls (.int 0 :: st) σ := g_iconst rfl
theorem a193_37 {X : SX} {ls : LS0} {st : List Value} {σ : SH} : exD X 193 37 ls st σ = exD X 193 40 ls (.int 255 :: st) σ := g_sipush rfl
theorem a193_40 {X : SX} {ls : LS0} {st : List Value} {σ : SH} {w0 : Int32} {w1 : Int32} {w2 : Int32} (h8 : cS st ≤ 8) : exD X 193 40 ls (.int w2 :: .int w1 :: .int w0 :: st) σ = cR (caD X 125 [.int w0, .int w1, .int w2] σ) (fun w s => exD X 193 43 ls (psh w st) s) := g_cs rfl rfl (Or.inl rfl) rfl (Nat.le_of_ble_eq_true rfl) h8
theorem a193_43 {X : SX} {c0 c1 c2 c3 c4 c5 : Option Value} {x : Int32} {t : LS0} {st : List Value} {σ : SH} : exD X 193 43 (c0 :: c1 :: c2 :: c3 :: c4 :: c5 :: t) (.int x :: st) σ = exD X 193 45 (stS 5 (.int x) (c0 :: c1 :: c2 :: c3 :: c4 :: c5 :: t)) st σ := g_istore_5 rfl
theorem a193_45 {X : SX} {c0 c1 c2 c3 c4 : Option Value} {x : Int32} {t : LS0} {st : List Value} {σ : SH} : exD X 193 45 (c0 :: c1 :: c2 :: c3 :: c4 :: some (.int x) :: t) st σ = exD X 193 47 (c0 :: c1 :: c2 :: c3 :: c4 :: some (.int x) :: t) (.int x :: st) σ := g_iload_5 rfl
theorem a193_47 {X : SX} {ls : LS0} {st : List Value} {σ : SH} {x : Int32} : exD X 193 47 ls (.int x :: st) σ = if x = 0 then exD X 193 57 ls st σ else exD X 193 50 ls st σ := g_ifCond_eq rfl
theorem a193_50 {X : SX} {x : Nat} {t : LS0} {st : List Value} {σ : SH} : exD X 193 50 (some (.ref x) :: t) st σ = exD X 193 51 (some (.ref x) :: t) (.ref x :: st) σ := g_aload_0 rfl
theorem a193_51 {X : SX} {c0 c1 c2 c3 c4 : Option Value} {x : Int32} {t : LS0} {st : List Value} {σ : SH} : exD X 193 51 (c0 :: c1 :: c2 :: c3 :: c4 :: some (.int x) :: t) st σ = exD X 193 53 (c0 :: c1 :: c2 :: c3 :: c4 :: some (.int x) :: t) (.int x :: st) σ := g_iload_5 rfl
theorem a193_53 {X : SX} {ls : LS0} {st : List Value} {I : Nat → Nat → Int32} {L : Nat → Nat → Int64} {w0 : Int32} {b : Nat} (hb : hk (ms I L) b = some (0, 10)) (h8 : cS st ≤ 8) : exD X 193 53 ls (.int w0 :: .ref b :: st) (ms I L) = cR (caD X 123 [.ref b, .int w0] (ms I L)) (fun w s => exD X 193 56 ls (psh w st) s) := g_cv rfl rfl rfl (Nat.le_of_ble_eq_true rfl) h8 hb
theorem a193_56 {X : SX} {ls : LS0} {σ : SH} {x : Int64} : exD X 193 56 ls [.long x] σ = some (some (.long x), σ) := g_lret rfl rfl
theorem a193_57 {X : SX} {x : Nat} {t : LS0} {st : List Value} {σ : SH} : exD X 193 57 (some (.ref x) :: t) st σ = exD X 193 58 (some (.ref x) :: t) (.ref x :: st) σ := g_aload_0 rfl
theorem a193_58 {X : SX} {c0 c1 : Option Value} {x : Int32} {t : LS0} {st : List Value} {σ : SH} : exD X 193 58 (c0 :: c1 :: some (.int x) :: t) st σ = exD X 193 59 (c0 :: c1 :: some (.int x) :: t) (.int x :: st) σ := g_iload_2 rfl
theorem a193_59 {X : SX} {c0 c1 c2 : Option Value} {x : Int32} {t : LS0} {st : List Value} {σ : SH} : exD X 193 59 (c0 :: c1 :: c2 :: some (.int x) :: t) st σ = exD X 193 60 (c0 :: c1 :: c2 :: some (.int x) :: t) (.int x :: st) σ := g_iload_3 rfl
theorem a193_60 {X : SX} {ls : LS0} {st : List Value} {I : Nat → Nat → Int32} {L : Nat → Nat → Int64} {w0 : Int32} {w1 : Int32} {b : Nat} (hb : hk (ms I L) b = some (0, 10)) (h8 : cS st ≤ 8) : exD X 193 60 ls (.int w1 :: .int w0 :: .ref b :: st) (ms I L) = cR (caD X 190 [.ref b, .int w0, .int w1] (ms I L)) (fun w s => exD X 193 63 ls (psh w st) s) := g_cv rfl rfl rfl (Nat.le_of_ble_eq_true rfl) h8 hb
theorem a193_63 {X : SX} {c0 c1 c2 c3 c4 c5 c6 c7 : Option Value} {x : Int64} {t : LS0} {st : List Value} {σ : SH} : exD X 193 63 (c0 :: c1 :: c2 :: c3 :: c4 :: c5 :: c6 :: c7 :: t) (.long x :: st) σ = exD X 193 65 (stD 6 (.long x) (c0 :: c1 :: c2 :: c3 :: c4 :: c5 :: c6 :: c7 :: t)) st σ := g_lstore_6 rfl
theorem a193_65 {X : SX} {x : Nat} {t : LS0} {st : List Value} {σ : SH} : exD X 193 65 (some (.ref x) :: t) st σ = exD X 193 66 (some (.ref x) :: t) (.ref x :: st) σ := g_aload_0 rfl
theorem a193_66 {X : SX} {ls : LS0} {st : List Value} {I : Nat → Nat → Int32} {L : Nat → Nat → Int64} {b : Nat} (hb : hk (ms I L) b = some (0, 10)) : exD X 193 66 ls (.ref b :: st) (ms I L) = gR (PP b 40) (fun q => exD X 193 69 ls (.ref q :: st) (ms I L)) := g_gfR (e := (10, 92, 10, 40)) rfl rfl (by decide +kernel) hb
theorem a193_69 {X : SX} {c0 : Option Value} {x : Int32} {t : LS0} {st : List Value} {σ : SH} : exD X 193 69 (c0 :: some (.int x) :: t) st σ = exD X 193 70 (c0 :: some (.int x) :: t) (.int x :: st) σ := g_iload_1 rfl
theorem a193_70 {X : SX} {ls : LS0} {st : List Value} {I : Nat → Nat → Int32} {L : Nat → Nat → Int64} {b : Nat} {i : Int32} : exD X 193 70 ls (.int i :: .ref b :: st) (ms I L) = laR (hk (ms I L) b) i (exD X 193 71 ls (.long (L b i.toNatClampNeg) :: st) (ms I L)) := g_lald rfl
theorem a193_71 {X : SX} {c0 c1 c2 c3 c4 c5 : Option Value} {x : Int64} {t : LS0} {st : List Value} {σ : SH} : exD X 193 71 (c0 :: c1 :: c2 :: c3 :: c4 :: c5 :: some (.long x) :: t) st σ = exD X 193 73 (c0 :: c1 :: c2 :: c3 :: c4 :: c5 :: some (.long x) :: t) (.long x :: st) σ := g_lload_6 rfl
theorem a193_73 {X : SX} {c0 c1 c2 c3 : Option Value} {x : Int32} {t : LS0} {st : List Value} {σ : SH} : exD X 193 73 (c0 :: c1 :: c2 :: c3 :: some (.int x) :: t) st σ = exD X 193 75 (c0 :: c1 :: c2 :: c3 :: some (.int x) :: t) (.int x :: st) σ := g_iload_4 rfl
theorem a193_75 {X : SX} {ls : LS0} {st : List Value} {σ : SH} {w0 : Int64} {w1 : Int64} {w2 : Int32} (h8 : cS st ≤ 8) : exD X 193 75 ls (.int w2 :: .long w1 :: .long w0 :: st) σ = cR (caD X 192 [.long w0, .long w1, .int w2] σ) (fun w s => exD X 193 78 ls (psh w st) s) := g_cs rfl rfl (Or.inl rfl) rfl (Nat.le_of_ble_eq_true rfl) h8
theorem a193_78 {X : SX} {ls : LS0} {σ : SH} {x : Int64} : exD X 193 78 ls [.long x] σ = some (some (.long x), σ) := g_lret rfl rfl
theorem a194_0 {X : SX} {x : Nat} {t : LS0} {st : List Value} {σ : SH} : exD X 194 0 (some (.ref x) :: t) st σ = exD X 194 1 (some (.ref x) :: t) (.ref x :: st) σ := g_aload_0 rfl
theorem a194_1 {X : SX} {c0 : Option Value} {x : Int32} {t : LS0} {st : List Value} {σ : SH} : exD X 194 1 (c0 :: some (.int x) :: t) st σ = exD X 194 2 (c0 :: some (.int x) :: t) (.int x :: st) σ := g_iload_1 rfl
theorem a194_2 {X : SX} {ls : LS0} {st : List Value} {I : Nat → Nat → Int32} {L : Nat → Nat → Int64} {w0 : Int32} {b : Nat} (hb : hk (ms I L) b = some (0, 10)) (h8 : cS st ≤ 8) : exD X 194 2 ls (.int w0 :: .ref b :: st) (ms I L) = cR (caD X 128 [.ref b, .int w0] (ms I L)) (fun w s => exD X 194 5 ls (psh w st) s) := g_cv rfl rfl rfl (Nat.le_of_ble_eq_true rfl) h8 hb
theorem a194_5 {X : SX} {ls : LS0} {st : List Value} {σ : SH} {x : Int32} : exD X 194 5 ls (.int x :: st) σ = if x = 0 then exD X 194 8 ls st σ else exD X 194 12 ls st σ := g_ifCond_ne rfl
theorem a194_8 {X : SX} {ls : LS0} {st : List Value} {σ : SH} : exD X 194 8 ls st σ = exD X 194 9 ls (.int (-1) :: st) σ := g_iconst rfl
theorem a194_9 {X : SX} {ls : LS0} {st : List Value} {σ : SH} : exD X 194 9 ls st σ = exD X 194 34 ls st σ := g_goto rfl
theorem a194_12 {X : SX} {c0 c1 c2 : Option Value} {x : Int32} {t : LS0} {st : List Value} {σ : SH} : exD X 194 12 (c0 :: c1 :: c2 :: some (.int x) :: t) st σ = exD X 194 13 (c0 :: c1 :: c2 :: some (.int x) :: t) (.int x :: st) σ := g_iload_3 rfl
theorem a194_13 {X : SX} {ls : LS0} {st : List Value} {σ : SH} : exD X 194 13 ls st σ = exD X 194 14 ls (.int 0 :: st) σ := g_iconst rfl
theorem a194_14 {X : SX} {ls : LS0} {st : List Value} {σ : SH} : exD X 194 14 ls st σ = exD X 194 15 ls (.int 1 :: st) σ := g_iconst rfl
theorem a194_15 {X : SX} {ls : LS0} {st : List Value} {σ : SH} {w0 : Int32} {w1 : Int32} {w2 : Int32} (h8 : cS st ≤ 8) : exD X 194 15 ls (.int w2 :: .int w1 :: .int w0 :: st) σ = cR (caD X 124 [.int w0, .int w1, .int w2] σ) (fun w s => exD X 194 18 ls (psh w st) s) := g_cs rfl rfl (Or.inl rfl) rfl (Nat.le_of_ble_eq_true rfl) h8
theorem a194_18 {X : SX} {ls : LS0} {st : List Value} {σ : SH} {x : Int32} : exD X 194 18 ls (.int x :: st) σ = if x = 0 then exD X 194 21 ls st σ else exD X 194 26 ls st σ := g_ifCond_ne rfl
theorem a194_21 {X : SX} {ls : LS0} {st : List Value} {σ : SH} : exD X 194 21 ls st σ = exD X 194 23 ls (.int (-2) :: st) σ := g_bipush rfl
theorem a194_23 {X : SX} {ls : LS0} {st : List Value} {σ : SH} : exD X 194 23 ls st σ = exD X 194 34 ls st σ := g_goto rfl
theorem a194_26 {X : SX} {c0 c1 : Option Value} {x : Int32} {t : LS0} {st : List Value} {σ : SH} : exD X 194 26 (c0 :: c1 :: some (.int x) :: t) st σ = exD X 194 27 (c0 :: c1 :: some (.int x) :: t) (.int x :: st) σ := g_iload_2 rfl
theorem a194_27 {X : SX} {ls : LS0} {st : List Value} {σ : SH} : exD X 194 27 ls st σ = exD X 194 28 ls (.int 0 :: st) σ := g_iconst rfl
theorem a194_28 {X : SX} {ls : LS0} {st : List Value} {σ : SH} : exD X 194 28 ls st σ = exD X 194 31 ls (.int 255 :: st) σ := g_sipush rfl
theorem a194_31 {X : SX} {ls : LS0} {st : List Value} {σ : SH} {w0 : Int32} {w1 : Int32} {w2 : Int32} (h8 : cS st ≤ 8) : exD X 194 31 ls (.int w2 :: .int w1 :: .int w0 :: st) σ = cR (caD X 125 [.int w0, .int w1, .int w2] σ) (fun w s => exD X 194 34 ls (psh w st) s) := g_cs rfl rfl (Or.inl rfl) rfl (Nat.le_of_ble_eq_true rfl) h8
theorem a194_34 {X : SX} {c0 c1 c2 c3 c4 : Option Value} {x : Int32} {t : LS0} {st : List Value} {σ : SH} : exD X 194 34 (c0 :: c1 :: c2 :: c3 :: c4 :: t) (.int x :: st) σ = exD X 194 36 (stS 4 (.int x) (c0 :: c1 :: c2 :: c3 :: c4 :: t)) st σ := g_istore_4 rfl
theorem a194_36 {X : SX} {c0 c1 c2 c3 : Option Value} {x : Int32} {t : LS0} {st : List Value} {σ : SH} : exD X 194 36 (c0 :: c1 :: c2 :: c3 :: some (.int x) :: t) st σ = exD X 194 38 (c0 :: c1 :: c2 :: c3 :: some (.int x) :: t) (.int x :: st) σ := g_iload_4 rfl
theorem a194_38 {X : SX} {ls : LS0} {st : List Value} {σ : SH} {x : Int32} : exD X 194 38 ls (.int x :: st) σ = if x = 0 then exD X 194 48 ls st σ else exD X 194 41 ls st σ := g_ifCond_eq rfl
theorem a194_41 {X : SX} {x : Nat} {t : LS0} {st : List Value} {σ : SH} : exD X 194 41 (some (.ref x) :: t) st σ = exD X 194 42 (some (.ref x) :: t) (.ref x :: st) σ := g_aload_0 rfl
theorem a194_42 {X : SX} {c0 c1 c2 c3 : Option Value} {x : Int32} {t : LS0} {st : List Value} {σ : SH} : exD X 194 42 (c0 :: c1 :: c2 :: c3 :: some (.int x) :: t) st σ = exD X 194 44 (c0 :: c1 :: c2 :: c3 :: some (.int x) :: t) (.int x :: st) σ := g_iload_4 rfl
theorem a194_44 {X : SX} {ls : LS0} {st : List Value} {I : Nat → Nat → Int32} {L : Nat → Nat → Int64} {w0 : Int32} {b : Nat} (hb : hk (ms I L) b = some (0, 10)) (h8 : cS st ≤ 8) : exD X 194 44 ls (.int w0 :: .ref b :: st) (ms I L) = cR (caD X 123 [.ref b, .int w0] (ms I L)) (fun w s => exD X 194 47 ls (psh w st) s) := g_cv rfl rfl rfl (Nat.le_of_ble_eq_true rfl) h8 hb
theorem a194_47 {X : SX} {ls : LS0} {σ : SH} {x : Int64} : exD X 194 47 ls [.long x] σ = some (some (.long x), σ) := g_lret rfl rfl
theorem a194_48 {X : SX} {x : Nat} {t : LS0} {st : List Value} {σ : SH} : exD X 194 48 (some (.ref x) :: t) st σ = exD X 194 49 (some (.ref x) :: t) (.ref x :: st) σ := g_aload_0 rfl
theorem a194_49 {X : SX} {c0 : Option Value} {x : Int32} {t : LS0} {st : List Value} {σ : SH} : exD X 194 49 (c0 :: some (.int x) :: t) st σ = exD X 194 50 (c0 :: some (.int x) :: t) (.int x :: st) σ := g_iload_1 rfl
theorem a194_50 {X : SX} {c0 c1 : Option Value} {x : Int32} {t : LS0} {st : List Value} {σ : SH} : exD X 194 50 (c0 :: c1 :: some (.int x) :: t) st σ = exD X 194 51 (c0 :: c1 :: some (.int x) :: t) (.int x :: st) σ := g_iload_2 rfl
theorem a194_51 {X : SX} {ls : LS0} {st : List Value} {I : Nat → Nat → Int32} {L : Nat → Nat → Int64} {w0 : Int32} {w1 : Int32} {b : Nat} (hb : hk (ms I L) b = some (0, 10)) (h8 : cS st ≤ 8) : exD X 194 51 ls (.int w1 :: .int w0 :: .ref b :: st) (ms I L) = cR (caD X 190 [.ref b, .int w0, .int w1] (ms I L)) (fun w s => exD X 194 54 ls (psh w st) s) := g_cv rfl rfl rfl (Nat.le_of_ble_eq_true rfl) h8 hb
theorem a194_54 {X : SX} {c0 c1 c2 c3 c4 c5 c6 : Option Value} {x : Int64} {t : LS0} {st : List Value} {σ : SH} : exD X 194 54 (c0 :: c1 :: c2 :: c3 :: c4 :: c5 :: c6 :: t) (.long x :: st) σ = exD X 194 56 (stD 5 (.long x) (c0 :: c1 :: c2 :: c3 :: c4 :: c5 :: c6 :: t)) st σ := g_lstore_5 rfl
theorem a194_56 {X : SX} {c0 c1 c2 c3 c4 : Option Value} {x : Int64} {t : LS0} {st : List Value} {σ : SH} : exD X 194 56 (c0 :: c1 :: c2 :: c3 :: c4 :: some (.long x) :: t) st σ = exD X 194 58 (c0 :: c1 :: c2 :: c3 :: c4 :: some (.long x) :: t) (.long x :: st) σ := g_lload_5 rfl
theorem a194_58 {X : SX} {c0 c1 c2 c3 c4 : Option Value} {x : Int64} {t : LS0} {st : List Value} {σ : SH} : exD X 194 58 (c0 :: c1 :: c2 :: c3 :: c4 :: some (.long x) :: t) st σ = exD X 194 60 (c0 :: c1 :: c2 :: c3 :: c4 :: some (.long x) :: t) (.long x :: st) σ := g_lload_5 rfl
theorem a194_60 {X : SX} {x : Nat} {t : LS0} {st : List Value} {σ : SH} : exD X 194 60 (some (.ref x) :: t) st σ = exD X 194 61 (some (.ref x) :: t) (.ref x :: st) σ := g_aload_0 rfl
theorem a194_61 {X : SX} {ls : LS0} {st : List Value} {σ : SH} : exD X 194 61 ls st σ = exD X 194 62 ls (.int 0 :: st) σ := g_iconst rfl
theorem a194_62 {X : SX} {c0 c1 : Option Value} {x : Int32} {t : LS0} {st : List Value} {σ : SH} : exD X 194 62 (c0 :: c1 :: some (.int x) :: t) st σ = exD X 194 63 (c0 :: c1 :: some (.int x) :: t) (.int x :: st) σ := g_iload_2 rfl
theorem a194_63 {X : SX} {ls : LS0} {st : List Value} {I : Nat → Nat → Int32} {L : Nat → Nat → Int64} {w0 : Int32} {w1 : Int32} {b : Nat} (hb : hk (ms I L) b = some (0, 10)) (h8 : cS st ≤ 8) : exD X 194 63 ls (.int w1 :: .int w0 :: .ref b :: st) (ms I L) = cR (caD X 189 [.ref b, .int w0, .int w1] (ms I L)) (fun w s => exD X 194 66 ls (psh w st) s) := g_cv rfl rfl rfl (Nat.le_of_ble_eq_true rfl) h8 hb
theorem a194_66 {X : SX} {ls : LS0} {st : List Value} {σ : SH} {x y : Int64} : exD X 194 66 ls (.long y :: .long x :: st) σ = exD X 194 67 ls (.long (x + y) :: st) σ := g_ladd rfl
theorem a194_67 {X : SX} {c0 c1 c2 : Option Value} {x : Int32} {t : LS0} {st : List Value} {σ : SH} : exD X 194 67 (c0 :: c1 :: c2 :: some (.int x) :: t) st σ = exD X 194 68 (c0 :: c1 :: c2 :: some (.int x) :: t) (.int x :: st) σ := g_iload_3 rfl
theorem a194_68 {X : SX} {ls : LS0} {st : List Value} {σ : SH} {w0 : Int64} {w1 : Int64} {w2 : Int32} (h8 : cS st ≤ 8) : exD X 194 68 ls (.int w2 :: .long w1 :: .long w0 :: st) σ = cR (caD X 192 [.long w0, .long w1, .int w2] σ) (fun w s => exD X 194 71 ls (psh w st) s) := g_cs rfl rfl (Or.inl rfl) rfl (Nat.le_of_ble_eq_true rfl) h8
theorem a194_71 {X : SX} {ls : LS0} {σ : SH} {x : Int64} : exD X 194 71 ls [.long x] σ = some (some (.long x), σ) := g_lret rfl rfl
theorem a195_0 {X : SX} {x : Nat} {t : LS0} {st : List Value} {σ : SH} : exD X 195 0 (some (.ref x) :: t) st σ = exD X 195 1 (some (.ref x) :: t) (.ref x :: st) σ := g_aload_0 rfl
theorem a195_1 {X : SX} {c0 : Option Value} {x : Int32} {t : LS0} {st : List Value} {σ : SH} : exD X 195 1 (c0 :: some (.int x) :: t) st σ = exD X 195 2 (c0 :: some (.int x) :: t) (.int x :: st) σ := g_iload_1 rfl
theorem a195_2 {X : SX} {ls : LS0} {st : List Value} {I : Nat → Nat → Int32} {L : Nat → Nat → Int64} {w0 : Int32} {b : Nat} (hb : hk (ms I L) b = some (0, 10)) (h8 : cS st ≤ 8) : exD X 195 2 ls (.int w0 :: .ref b :: st) (ms I L) = cR (caD X 128 [.ref b, .int w0] (ms I L)) (fun w s => exD X 195 5 ls (psh w st) s) := g_cv rfl rfl rfl (Nat.le_of_ble_eq_true rfl) h8 hb
theorem a195_5 {X : SX} {ls : LS0} {st : List Value} {σ : SH} {x : Int32} : exD X 195 5 ls (.int x :: st) σ = if x = 0 then exD X 195 8 ls st σ else exD X 195 12 ls st σ := g_ifCond_ne rfl
theorem a195_8 {X : SX} {ls : LS0} {st : List Value} {σ : SH} : exD X 195 8 ls st σ = exD X 195 9 ls (.int (-1) :: st) σ := g_iconst rfl
theorem a195_9 {X : SX} {ls : LS0} {st : List Value} {σ : SH} : exD X 195 9 ls st σ = exD X 195 20 ls st σ := g_goto rfl
theorem a195_12 {X : SX} {c0 c1 : Option Value} {x : Int32} {t : LS0} {st : List Value} {σ : SH} : exD X 195 12 (c0 :: c1 :: some (.int x) :: t) st σ = exD X 195 13 (c0 :: c1 :: some (.int x) :: t) (.int x :: st) σ := g_iload_2 rfl
theorem a195_13 {X : SX} {ls : LS0} {st : List Value} {σ : SH} : exD X 195 13 ls st σ = exD X 195 14 ls (.int 0 :: st) σ := g_iconst rfl
theorem a195_14 {X : SX} {ls : LS0} {st : List Value} {σ : SH} : exD X 195 14 ls st σ = exD X 195 17 ls (.int 255 :: st) σ := g_sipush rfl
theorem a195_17 {X : SX} {ls : LS0} {st : List Value} {σ : SH} {w0 : Int32} {w1 : Int32} {w2 : Int32} (h8 : cS st ≤ 8) : exD X 195 17 ls (.int w2 :: .int w1 :: .int w0 :: st) σ = cR (caD X 125 [.int w0, .int w1, .int w2] σ) (fun w s => exD X 195 20 ls (psh w st) s) := g_cs rfl rfl (Or.inl rfl) rfl (Nat.le_of_ble_eq_true rfl) h8
theorem a195_20 {X : SX} {c0 c1 c2 c3 : Option Value} {x : Int32} {t : LS0} {st : List Value} {σ : SH} : exD X 195 20 (c0 :: c1 :: c2 :: c3 :: t) (.int x :: st) σ = exD X 195 21 (stS 3 (.int x) (c0 :: c1 :: c2 :: c3 :: t)) st σ := g_istore_3 rfl
theorem a195_21 {X : SX} {c0 c1 c2 : Option Value} {x : Int32} {t : LS0} {st : List Value} {σ : SH} : exD X 195 21 (c0 :: c1 :: c2 :: some (.int x) :: t) st σ = exD X 195 22 (c0 :: c1 :: c2 :: some (.int x) :: t) (.int x :: st) σ := g_iload_3 rfl
theorem a195_22 {X : SX} {ls : LS0} {st : List Value} {σ : SH} {x : Int32} : exD X 195 22 ls (.int x :: st) σ = if x = 0 then exD X 195 31 ls st σ else exD X 195 25 ls st σ := g_ifCond_eq rfl
theorem a195_25 {X : SX} {x : Nat} {t : LS0} {st : List Value} {σ : SH} : exD X 195 25 (some (.ref x) :: t) st σ = exD X 195 26 (some (.ref x) :: t) (.ref x :: st) σ := g_aload_0 rfl
theorem a195_26 {X : SX} {c0 c1 c2 : Option Value} {x : Int32} {t : LS0} {st : List Value} {σ : SH} : exD X 195 26 (c0 :: c1 :: c2 :: some (.int x) :: t) st σ = exD X 195 27 (c0 :: c1 :: c2 :: some (.int x) :: t) (.int x :: st) σ := g_iload_3 rfl
theorem a195_27 {X : SX} {ls : LS0} {st : List Value} {I : Nat → Nat → Int32} {L : Nat → Nat → Int64} {w0 : Int32} {b : Nat} (hb : hk (ms I L) b = some (0, 10)) (h8 : cS st ≤ 8) : exD X 195 27 ls (.int w0 :: .ref b :: st) (ms I L) = cR (caD X 121 [.ref b, .int w0] (ms I L)) (fun w s => exD X 195 30 ls (psh w st) s) := g_cv rfl rfl rfl (Nat.le_of_ble_eq_true rfl) h8 hb
theorem a195_30 {X : SX} {ls : LS0} {σ : SH} {x : Int32} : exD X 195 30 ls [.int x] σ = some (some (.int x), σ) := g_iret rfl rfl
theorem a195_31 {X : SX} {x : Nat} {t : LS0} {st : List Value} {σ : SH} : exD X 195 31 (some (.ref x) :: t) st σ = exD X 195 32 (some (.ref x) :: t) (.ref x :: st) σ := g_aload_0 rfl
theorem a195_32 {X : SX} {c0 : Option Value} {x : Int32} {t : LS0} {st : List Value} {σ : SH} : exD X 195 32 (c0 :: some (.int x) :: t) st σ = exD X 195 33 (c0 :: some (.int x) :: t) (.int x :: st) σ := g_iload_1 rfl
theorem a195_33 {X : SX} {c0 c1 : Option Value} {x : Int32} {t : LS0} {st : List Value} {σ : SH} : exD X 195 33 (c0 :: c1 :: some (.int x) :: t) st σ = exD X 195 34 (c0 :: c1 :: some (.int x) :: t) (.int x :: st) σ := g_iload_2 rfl
theorem a195_34 {X : SX} {ls : LS0} {st : List Value} {I : Nat → Nat → Int32} {L : Nat → Nat → Int64} {w0 : Int32} {w1 : Int32} {b : Nat} (hb : hk (ms I L) b = some (0, 10)) (h8 : cS st ≤ 8) : exD X 195 34 ls (.int w1 :: .int w0 :: .ref b :: st) (ms I L) = cR (caD X 190 [.ref b, .int w0, .int w1] (ms I L)) (fun w s => exD X 195 37 ls (psh w st) s) := g_cv rfl rfl rfl (Nat.le_of_ble_eq_true rfl) h8 hb
theorem a195_37 {X : SX} {ls : LS0} {st : List Value} {σ : SH} : exD X 195 37 ls st σ = exD X 195 38 ls (.long 0 :: st) σ := g_lconst (n := 0) rfl
theorem a195_38 {X : SX} {ls : LS0} {st : List Value} {σ : SH} {x y : Int64} : exD X 195 38 ls (.long y :: .long x :: st) σ = exD X 195 39 ls (.int (lg_cmp x y) :: st) σ := g_lcmp rfl
theorem a195_39 {X : SX} {ls : LS0} {st : List Value} {σ : SH} {x : Int32} : exD X 195 39 ls (.int x :: st) σ = if x = 0 then exD X 195 42 ls st σ else exD X 195 45 ls st σ := g_ifCond_ne rfl
theorem a195_42 {X : SX} {ls : LS0} {st : List Value} {σ : SH} : exD X 195 42 ls st σ = exD X 195 44 ls (.int (-9) :: st) σ := g_bipush rfl
theorem a195_44 {X : SX} {ls : LS0} {σ : SH} {x : Int32} : exD X 195 44 ls [.int x] σ = some (some (.int x), σ) := g_iret rfl rfl
theorem a195_45 {X : SX} {ls : LS0} {st : List Value} {σ : SH} : exD X 195 45 ls st σ = exD X 195 46 ls (.int 0 :: st) σ := g_iconst rfl
theorem a195_46 {X : SX} {c0 c1 c2 c3 c4 : Option Value} {x : Int32} {t : LS0} {st : List Value} {σ : SH} : exD X 195 46 (c0 :: c1 :: c2 :: c3 :: c4 :: t) (.int x :: st) σ = exD X 195 48 (stS 4 (.int x) (c0 :: c1 :: c2 :: c3 :: c4 :: t)) st σ := g_istore_4 rfl
theorem a195_48 {X : SX} {ls : LS0} {st : List Value} {σ : SH} : exD X 195 48 ls st σ = exD X 195 49 ls (.int 1 :: st) σ := g_iconst rfl
theorem a195_49 {X : SX} {c0 c1 c2 c3 c4 c5 : Option Value} {x : Int32} {t : LS0} {st : List Value} {σ : SH} : exD X 195 49 (c0 :: c1 :: c2 :: c3 :: c4 :: c5 :: t) (.int x :: st) σ = exD X 195 51 (stS 5 (.int x) (c0 :: c1 :: c2 :: c3 :: c4 :: c5 :: t)) st σ := g_istore_5 rfl
theorem a195_51 {X : SX} {c0 c1 c2 c3 c4 : Option Value} {x : Int32} {t : LS0} {st : List Value} {σ : SH} : exD X 195 51 (c0 :: c1 :: c2 :: c3 :: c4 :: some (.int x) :: t) st σ = exD X 195 53 (c0 :: c1 :: c2 :: c3 :: c4 :: some (.int x) :: t) (.int x :: st) σ := g_iload_5 rfl
theorem a195_53 {X : SX} {x : Nat} {t : LS0} {st : List Value} {σ : SH} : exD X 195 53 (some (.ref x) :: t) st σ = exD X 195 54 (some (.ref x) :: t) (.ref x :: st) σ := g_aload_0 rfl
theorem a195_54 {X : SX} {ls : LS0} {st : List Value} {I : Nat → Nat → Int32} {L : Nat → Nat → Int64} {b : Nat} (hb : hk (ms I L) b = some (0, 10)) : exD X 195 54 ls (.ref b :: st) (ms I L) = exD X 195 57 ls (.int (I b 14) :: st) (ms I L) := g_gfI (e := (10, 99, 10, 14)) rfl rfl (by decide +kernel) hb
theorem a195_57 {X : SX} {ls : LS0} {st : List Value} {σ : SH} {x y : Int32} : exD X 195 57 ls (.int y :: .int x :: st) σ = if y ≤ x then exD X 195 93 ls st σ else exD X 195 60 ls st σ := g_if_icmp_ge rfl
theorem a195_60 {X : SX} {x : Nat} {t : LS0} {st : List Value} {σ : SH} : exD X 195 60 (some (.ref x) :: t) st σ = exD X 195 61 (some (.ref x) :: t) (.ref x :: st) σ := g_aload_0 rfl
theorem a195_61 {X : SX} {ls : LS0} {st : List Value} {I : Nat → Nat → Int32} {L : Nat → Nat → Int64} {b : Nat} (hb : hk (ms I L) b = some (0, 10)) : exD X 195 61 ls (.ref b :: st) (ms I L) = gR (PP b 40) (fun q => exD X 195 64 ls (.ref q :: st) (ms I L)) := g_gfR (e := (10, 92, 10, 40)) rfl rfl (by decide +kernel) hb
theorem a195_64 {X : SX} {c0 c1 c2 c3 c4 : Option Value} {x : Int32} {t : LS0} {st : List Value} {σ : SH} : exD X 195 64 (c0 :: c1 :: c2 :: c3 :: c4 :: some (.int x) :: t) st σ = exD X 195 66 (c0 :: c1 :: c2 :: c3 :: c4 :: some (.int x) :: t) (.int x :: st) σ := g_iload_5 rfl
theorem a195_66 {X : SX} {ls : LS0} {st : List Value} {I : Nat → Nat → Int32} {L : Nat → Nat → Int64} {b : Nat} {i : Int32} : exD X 195 66 ls (.int i :: .ref b :: st) (ms I L) = laR (hk (ms I L) b) i (exD X 195 67 ls (.long (L b i.toNatClampNeg) :: st) (ms I L)) := g_lald rfl
theorem a195_67 {X : SX} {x : Nat} {t : LS0} {st : List Value} {σ : SH} : exD X 195 67 (some (.ref x) :: t) st σ = exD X 195 68 (some (.ref x) :: t) (.ref x :: st) σ := g_aload_0 rfl
theorem a195_68 {X : SX} {ls : LS0} {st : List Value} {I : Nat → Nat → Int32} {L : Nat → Nat → Int64} {b : Nat} (hb : hk (ms I L) b = some (0, 10)) : exD X 195 68 ls (.ref b :: st) (ms I L) = gR (PP b 40) (fun q => exD X 195 71 ls (.ref q :: st) (ms I L)) := g_gfR (e := (10, 92, 10, 40)) rfl rfl (by decide +kernel) hb
theorem a195_71 {X : SX} {c0 c1 c2 c3 : Option Value} {x : Int32} {t : LS0} {st : List Value} {σ : SH} : exD X 195 71 (c0 :: c1 :: c2 :: c3 :: some (.int x) :: t) st σ = exD X 195 73 (c0 :: c1 :: c2 :: c3 :: some (.int x) :: t) (.int x :: st) σ := g_iload_4 rfl
theorem a195_73 {X : SX} {ls : LS0} {st : List Value} {I : Nat → Nat → Int32} {L : Nat → Nat → Int64} {b : Nat} {i : Int32} : exD X 195 73 ls (.int i :: .ref b :: st) (ms I L) = laR (hk (ms I L) b) i (exD X 195 74 ls (.long (L b i.toNatClampNeg) :: st) (ms I L)) := g_lald rfl
theorem a195_74 {X : SX} {ls : LS0} {st : List Value} {σ : SH} {x y : Int64} : exD X 195 74 ls (.long y :: .long x :: st) σ = exD X 195 75 ls (.int (lg_cmp x y) :: st) σ := g_lcmp rfl
theorem a195_75 {X : SX} {ls : LS0} {st : List Value} {σ : SH} {x : Int32} : exD X 195 75 ls (.int x :: st) σ = if x ≤ 0 then exD X 195 83 ls st σ else exD X 195 78 ls st σ := g_ifCond_le rfl
theorem a195_78 {X : SX} {c0 c1 c2 c3 c4 : Option Value} {x : Int32} {t : LS0} {st : List Value} {σ : SH} : exD X 195 78 (c0 :: c1 :: c2 :: c3 :: c4 :: some (.int x) :: t) st σ = exD X 195 80 (c0 :: c1 :: c2 :: c3 :: c4 :: some (.int x) :: t) (.int x :: st) σ := g_iload_5 rfl
theorem a195_80 {X : SX} {ls : LS0} {st : List Value} {σ : SH} : exD X 195 80 ls st σ = exD X 195 85 ls st σ := g_goto rfl
theorem a195_83 {X : SX} {c0 c1 c2 c3 : Option Value} {x : Int32} {t : LS0} {st : List Value} {σ : SH} : exD X 195 83 (c0 :: c1 :: c2 :: c3 :: some (.int x) :: t) st σ = exD X 195 85 (c0 :: c1 :: c2 :: c3 :: some (.int x) :: t) (.int x :: st) σ := g_iload_4 rfl
theorem a195_85 {X : SX} {c0 c1 c2 c3 c4 : Option Value} {x : Int32} {t : LS0} {st : List Value} {σ : SH} : exD X 195 85 (c0 :: c1 :: c2 :: c3 :: c4 :: t) (.int x :: st) σ = exD X 195 87 (stS 4 (.int x) (c0 :: c1 :: c2 :: c3 :: c4 :: t)) st σ := g_istore_4 rfl
theorem a195_87 {X : SX} {c0 c1 c2 c3 c4 : Option Value} {x : Int32} {t : LS0} {st : List Value} {σ : SH} : exD X 195 87 (c0 :: c1 :: c2 :: c3 :: c4 :: some (.int x) :: t) st σ = exD X 195 90 (stS 5 (.int (x + 1)) (c0 :: c1 :: c2 :: c3 :: c4 :: some (.int x) :: t)) st σ := g_iinc_5 rfl
theorem a195_90 {X : SX} {ls : LS0} {st : List Value} {σ : SH} : exD X 195 90 ls st σ = exD X 195 51 ls st σ := g_goto rfl
theorem a195_93 {X : SX} {c0 c1 c2 c3 : Option Value} {x : Int32} {t : LS0} {st : List Value} {σ : SH} : exD X 195 93 (c0 :: c1 :: c2 :: c3 :: some (.int x) :: t) st σ = exD X 195 95 (c0 :: c1 :: c2 :: c3 :: some (.int x) :: t) (.int x :: st) σ := g_iload_4 rfl
theorem a195_95 {X : SX} {ls : LS0} {σ : SH} {x : Int32} : exD X 195 95 ls [.int x] σ = some (some (.int x), σ) := g_iret rfl rfl
theorem a196_0 {X : SX} {x : Nat} {t : LS0} {st : List Value} {σ : SH} : exD X 196 0 (some (.ref x) :: t) st σ = exD X 196 1 (some (.ref x) :: t) (.ref x :: st) σ := g_aload_0 rfl
theorem a196_1 {X : SX} {c0 : Option Value} {x : Int32} {t : LS0} {st : List Value} {σ : SH} : exD X 196 1 (c0 :: some (.int x) :: t) st σ = exD X 196 2 (c0 :: some (.int x) :: t) (.int x :: st) σ := g_iload_1 rfl
theorem a196_2 {X : SX} {ls : LS0} {st : List Value} {I : Nat → Nat → Int32} {L : Nat → Nat → Int64} {w0 : Int32} {b : Nat} (hb : hk (ms I L) b = some (0, 10)) (h8 : cS st ≤ 8) : exD X 196 2 ls (.int w0 :: .ref b :: st) (ms I L) = cR (caD X 127 [.ref b, .int w0] (ms I L)) (fun w s => exD X 196 5 ls (psh w st) s) := g_cv rfl rfl rfl (Nat.le_of_ble_eq_true rfl) h8 hb
theorem a196_5 {X : SX} {ls : LS0} {st : List Value} {σ : SH} {x : Int32} : exD X 196 5 ls (.int x :: st) σ = if x = 0 then exD X 196 8 ls st σ else exD X 196 14 ls st σ := g_ifCond_ne rfl
theorem a196_8 {X : SX} {x : Nat} {t : LS0} {st : List Value} {σ : SH} : exD X 196 8 (some (.ref x) :: t) st σ = exD X 196 9 (some (.ref x) :: t) (.ref x :: st) σ := g_aload_0 rfl
theorem a196_9 {X : SX} {ls : LS0} {st : List Value} {σ : SH} : exD X 196 9 ls st σ = exD X 196 10 ls (.int (-1) :: st) σ := g_iconst rfl
theorem a196_10 {X : SX} {ls : LS0} {st : List Value} {I : Nat → Nat → Int32} {L : Nat → Nat → Int64} {w0 : Int32} {b : Nat} (hb : hk (ms I L) b = some (0, 10)) (h8 : cS st ≤ 8) : exD X 196 10 ls (.int w0 :: .ref b :: st) (ms I L) = cR (caD X 121 [.ref b, .int w0] (ms I L)) (fun w s => exD X 196 13 ls (psh w st) s) := g_cv rfl rfl rfl (Nat.le_of_ble_eq_true rfl) h8 hb
theorem a196_13 {X : SX} {ls : LS0} {σ : SH} {x : Int32} : exD X 196 13 ls [.int x] σ = some (some (.int x), σ) := g_iret rfl rfl
theorem a196_14 {X : SX} {c0 c1 : Option Value} {x : Int32} {t : LS0} {st : List Value} {σ : SH} : exD X 196 14 (c0 :: c1 :: some (.int x) :: t) st σ = exD X 196 15 (c0 :: c1 :: some (.int x) :: t) (.int x :: st) σ := g_iload_2 rfl
theorem a196_15 {X : SX} {ls : LS0} {st : List Value} {σ : SH} : exD X 196 15 ls st σ = exD X 196 16 ls (.int 0 :: st) σ := g_iconst rfl
theorem a196_16 {X : SX} {ls : LS0} {st : List Value} {σ : SH} : exD X 196 16 ls st σ = exD X 196 17 ls (.int 1 :: st) σ := g_iconst rfl
theorem a196_17 {X : SX} {ls : LS0} {st : List Value} {σ : SH} {w0 : Int32} {w1 : Int32} {w2 : Int32} (h8 : cS st ≤ 8) : exD X 196 17 ls (.int w2 :: .int w1 :: .int w0 :: st) σ = cR (caD X 124 [.int w0, .int w1, .int w2] σ) (fun w s => exD X 196 20 ls (psh w st) s) := g_cs rfl rfl (Or.inl rfl) rfl (Nat.le_of_ble_eq_true rfl) h8
theorem a196_20 {X : SX} {ls : LS0} {st : List Value} {σ : SH} {x : Int32} : exD X 196 20 ls (.int x :: st) σ = if x = 0 then exD X 196 23 ls st σ else exD X 196 30 ls st σ := g_ifCond_ne rfl
theorem a196_23 {X : SX} {x : Nat} {t : LS0} {st : List Value} {σ : SH} : exD X 196 23 (some (.ref x) :: t) st σ = exD X 196 24 (some (.ref x) :: t) (.ref x :: st) σ := g_aload_0 rfl
theorem a196_24 {X : SX} {ls : LS0} {st : List Value} {σ : SH} : exD X 196 24 ls st σ = exD X 196 26 ls (.int (-2) :: st) σ := g_bipush rfl
theorem a196_26 {X : SX} {ls : LS0} {st : List Value} {I : Nat → Nat → Int32} {L : Nat → Nat → Int64} {w0 : Int32} {b : Nat} (hb : hk (ms I L) b = some (0, 10)) (h8 : cS st ≤ 8) : exD X 196 26 ls (.int w0 :: .ref b :: st) (ms I L) = cR (caD X 121 [.ref b, .int w0] (ms I L)) (fun w s => exD X 196 29 ls (psh w st) s) := g_cv rfl rfl rfl (Nat.le_of_ble_eq_true rfl) h8 hb
theorem a196_29 {X : SX} {ls : LS0} {σ : SH} {x : Int32} : exD X 196 29 ls [.int x] σ = some (some (.int x), σ) := g_iret rfl rfl
theorem a196_30 {X : SX} {x : Nat} {t : LS0} {st : List Value} {σ : SH} : exD X 196 30 (some (.ref x) :: t) st σ = exD X 196 31 (some (.ref x) :: t) (.ref x :: st) σ := g_aload_0 rfl
theorem a196_31 {X : SX} {ls : LS0} {st : List Value} {I : Nat → Nat → Int32} {L : Nat → Nat → Int64} {b : Nat} (hb : hk (ms I L) b = some (0, 10)) : exD X 196 31 ls (.ref b :: st) (ms I L) = gR (PP b 5) (fun q => exD X 196 34 ls (.ref q :: st) (ms I L)) := g_gfR (e := (10, 25, 10, 5)) rfl rfl (by decide +kernel) hb
theorem a196_34 {X : SX} {c0 : Option Value} {x : Int32} {t : LS0} {st : List Value} {σ : SH} : exD X 196 34 (c0 :: some (.int x) :: t) st σ = exD X 196 35 (c0 :: some (.int x) :: t) (.int x :: st) σ := g_iload_1 rfl
theorem a196_35 {X : SX} {ls : LS0} {st : List Value} {I : Nat → Nat → Int32} {L : Nat → Nat → Int64} {b : Nat} {i : Int32} (hb : b < 4096) : exD X 196 35 ls (.int i :: .ref b :: st) (ms I L) = iaR (hk (ms I L) b) i (exD X 196 36 ls (.int (I b i.toNatClampNeg) :: st) (ms I L)) := g_iald rfl hb
theorem a196_36 {X : SX} {ls : LS0} {st : List Value} {σ : SH} : exD X 196 36 ls st σ = exD X 196 37 ls (.int 4 :: st) σ := g_iconst rfl
theorem a196_37 {X : SX} {ls : LS0} {st : List Value} {σ : SH} {x y : Int32} : exD X 196 37 ls (.int y :: .int x :: st) σ = if x = y then exD X 196 47 ls st σ else exD X 196 40 ls st σ := g_if_icmp_eq rfl
theorem a196_40 {X : SX} {x : Nat} {t : LS0} {st : List Value} {σ : SH} : exD X 196 40 (some (.ref x) :: t) st σ = exD X 196 41 (some (.ref x) :: t) (.ref x :: st) σ := g_aload_0 rfl
theorem a196_41 {X : SX} {ls : LS0} {st : List Value} {σ : SH} : exD X 196 41 ls st σ = exD X 196 43 ls (.int (-3) :: st) σ := g_bipush rfl
theorem a196_43 {X : SX} {ls : LS0} {st : List Value} {I : Nat → Nat → Int32} {L : Nat → Nat → Int64} {w0 : Int32} {b : Nat} (hb : hk (ms I L) b = some (0, 10)) (h8 : cS st ≤ 8) : exD X 196 43 ls (.int w0 :: .ref b :: st) (ms I L) = cR (caD X 121 [.ref b, .int w0] (ms I L)) (fun w s => exD X 196 46 ls (psh w st) s) := g_cv rfl rfl rfl (Nat.le_of_ble_eq_true rfl) h8 hb
theorem a196_46 {X : SX} {ls : LS0} {σ : SH} {x : Int32} : exD X 196 46 ls [.int x] σ = some (some (.int x), σ) := g_iret rfl rfl
theorem a196_47 {X : SX} {ls : LS0} {st : List Value} {σ : SH} : exD X 196 47 ls st σ = exD X 196 48 ls (.int 0 :: st) σ := g_iconst rfl
theorem a196_48 {X : SX} {c0 c1 c2 c3 : Option Value} {x : Int32} {t : LS0} {st : List Value} {σ : SH} : exD X 196 48 (c0 :: c1 :: c2 :: c3 :: t) (.int x :: st) σ = exD X 196 49 (stS 3 (.int x) (c0 :: c1 :: c2 :: c3 :: t)) st σ := g_istore_3 rfl
theorem a196_49 {X : SX} {ls : LS0} {st : List Value} {σ : SH} : exD X 196 49 ls st σ = exD X 196 50 ls (.int 0 :: st) σ := g_iconst rfl
theorem a196_50 {X : SX} {c0 c1 c2 c3 c4 : Option Value} {x : Int32} {t : LS0} {st : List Value} {σ : SH} : exD X 196 50 (c0 :: c1 :: c2 :: c3 :: c4 :: t) (.int x :: st) σ = exD X 196 52 (stS 4 (.int x) (c0 :: c1 :: c2 :: c3 :: c4 :: t)) st σ := g_istore_4 rfl
theorem a196_52 {X : SX} {ls : LS0} {st : List Value} {σ : SH} : exD X 196 52 ls st σ = exD X 196 53 ls (.int 0 :: st) σ := g_iconst rfl
theorem a196_53 {X : SX} {c0 c1 c2 c3 c4 c5 : Option Value} {x : Int32} {t : LS0} {st : List Value} {σ : SH} : exD X 196 53 (c0 :: c1 :: c2 :: c3 :: c4 :: c5 :: t) (.int x :: st) σ = exD X 196 55 (stS 5 (.int x) (c0 :: c1 :: c2 :: c3 :: c4 :: c5 :: t)) st σ := g_istore_5 rfl
theorem a196_55 {X : SX} {c0 c1 c2 c3 c4 : Option Value} {x : Int32} {t : LS0} {st : List Value} {σ : SH} : exD X 196 55 (c0 :: c1 :: c2 :: c3 :: c4 :: some (.int x) :: t) st σ = exD X 196 57 (c0 :: c1 :: c2 :: c3 :: c4 :: some (.int x) :: t) (.int x :: st) σ := g_iload_5 rfl
theorem a196_57 {X : SX} {ls : LS0} {st : List Value} {σ : SH} : exD X 196 57 ls st σ = exD X 196 59 ls (.int 40 :: st) σ := g_bipush rfl
theorem a196_59 {X : SX} {ls : LS0} {st : List Value} {σ : SH} {x y : Int32} : exD X 196 59 ls (.int y :: .int x :: st) σ = if y ≤ x then exD X 196 103 ls st σ else exD X 196 62 ls st σ := g_if_icmp_ge rfl
theorem a196_62 {X : SX} {x : Nat} {t : LS0} {st : List Value} {σ : SH} : exD X 196 62 (some (.ref x) :: t) st σ = exD X 196 63 (some (.ref x) :: t) (.ref x :: st) σ := g_aload_0 rfl
theorem a196_63 {X : SX} {c0 : Option Value} {x : Int32} {t : LS0} {st : List Value} {σ : SH} : exD X 196 63 (c0 :: some (.int x) :: t) st σ = exD X 196 64 (c0 :: some (.int x) :: t) (.int x :: st) σ := g_iload_1 rfl
theorem a196_64 {X : SX} {c0 c1 c2 c3 c4 : Option Value} {x : Int32} {t : LS0} {st : List Value} {σ : SH} : exD X 196 64 (c0 :: c1 :: c2 :: c3 :: c4 :: some (.int x) :: t) st σ = exD X 196 66 (c0 :: c1 :: c2 :: c3 :: c4 :: some (.int x) :: t) (.int x :: st) σ := g_iload_5 rfl
theorem a196_66 {X : SX} {ls : LS0} {st : List Value} {I : Nat → Nat → Int32} {L : Nat → Nat → Int64} {w0 : Int32} {w1 : Int32} {b : Nat} (hb : hk (ms I L) b = some (0, 10)) (h8 : cS st ≤ 8) : exD X 196 66 ls (.int w1 :: .int w0 :: .ref b :: st) (ms I L) = cR (caD X 147 [.ref b, .int w0, .int w1] (ms I L)) (fun w s => exD X 196 69 ls (psh w st) s) := g_cv rfl rfl rfl (Nat.le_of_ble_eq_true rfl) h8 hb
theorem a196_69 {X : SX} {x : Nat} {t : LS0} {st : List Value} {σ : SH} : exD X 196 69 (some (.ref x) :: t) st σ = exD X 196 70 (some (.ref x) :: t) (.ref x :: st) σ := g_aload_0 rfl
theorem a196_70 {X : SX} {c0 : Option Value} {x : Int32} {t : LS0} {st : List Value} {σ : SH} : exD X 196 70 (c0 :: some (.int x) :: t) st σ = exD X 196 71 (c0 :: some (.int x) :: t) (.int x :: st) σ := g_iload_1 rfl
theorem a196_71 {X : SX} {c0 c1 c2 : Option Value} {x : Int32} {t : LS0} {st : List Value} {σ : SH} : exD X 196 71 (c0 :: c1 :: c2 :: some (.int x) :: t) st σ = exD X 196 72 (c0 :: c1 :: c2 :: some (.int x) :: t) (.int x :: st) σ := g_iload_3 rfl
theorem a196_72 {X : SX} {ls : LS0} {st : List Value} {I : Nat → Nat → Int32} {L : Nat → Nat → Int64} {w0 : Int32} {w1 : Int32} {b : Nat} (hb : hk (ms I L) b = some (0, 10)) (h8 : cS st ≤ 8) : exD X 196 72 ls (.int w1 :: .int w0 :: .ref b :: st) (ms I L) = cR (caD X 147 [.ref b, .int w0, .int w1] (ms I L)) (fun w s => exD X 196 75 ls (psh w st) s) := g_cv rfl rfl rfl (Nat.le_of_ble_eq_true rfl) h8 hb
theorem a196_75 {X : SX} {ls : LS0} {st : List Value} {σ : SH} {x y : Int32} : exD X 196 75 ls (.int y :: .int x :: st) σ = if x ≤ y then exD X 196 81 ls st σ else exD X 196 78 ls st σ := g_if_icmp_le rfl
theorem a196_78 {X : SX} {c0 c1 c2 c3 c4 : Option Value} {x : Int32} {t : LS0} {st : List Value} {σ : SH} : exD X 196 78 (c0 :: c1 :: c2 :: c3 :: c4 :: some (.int x) :: t) st σ = exD X 196 80 (c0 :: c1 :: c2 :: c3 :: c4 :: some (.int x) :: t) (.int x :: st) σ := g_iload_5 rfl
theorem a196_80 {X : SX} {c0 c1 c2 c3 : Option Value} {x : Int32} {t : LS0} {st : List Value} {σ : SH} : exD X 196 80 (c0 :: c1 :: c2 :: c3 :: t) (.int x :: st) σ = exD X 196 81 (stS 3 (.int x) (c0 :: c1 :: c2 :: c3 :: t)) st σ := g_istore_3 rfl
theorem a196_81 {X : SX} {x : Nat} {t : LS0} {st : List Value} {σ : SH} : exD X 196 81 (some (.ref x) :: t) st σ = exD X 196 82 (some (.ref x) :: t) (.ref x :: st) σ := g_aload_0 rfl
theorem a196_82 {X : SX} {c0 : Option Value} {x : Int32} {t : LS0} {st : List Value} {σ : SH} : exD X 196 82 (c0 :: some (.int x) :: t) st σ = exD X 196 83 (c0 :: some (.int x) :: t) (.int x :: st) σ := g_iload_1 rfl
theorem a196_83 {X : SX} {c0 c1 c2 c3 c4 : Option Value} {x : Int32} {t : LS0} {st : List Value} {σ : SH} : exD X 196 83 (c0 :: c1 :: c2 :: c3 :: c4 :: some (.int x) :: t) st σ = exD X 196 85 (c0 :: c1 :: c2 :: c3 :: c4 :: some (.int x) :: t) (.int x :: st) σ := g_iload_5 rfl
theorem a196_85 {X : SX} {ls : LS0} {st : List Value} {I : Nat → Nat → Int32} {L : Nat → Nat → Int64} {w0 : Int32} {w1 : Int32} {b : Nat} (hb : hk (ms I L) b = some (0, 10)) (h8 : cS st ≤ 8) : exD X 196 85 ls (.int w1 :: .int w0 :: .ref b :: st) (ms I L) = cR (caD X 147 [.ref b, .int w0, .int w1] (ms I L)) (fun w s => exD X 196 88 ls (psh w st) s) := g_cv rfl rfl rfl (Nat.le_of_ble_eq_true rfl) h8 hb
theorem a196_88 {X : SX} {ls : LS0} {st : List Value} {σ : SH} {x : Int32} : exD X 196 88 ls (.int x :: st) σ = if x ≤ 0 then exD X 196 97 ls st σ else exD X 196 91 ls st σ := g_ifCond_le rfl
theorem a196_91 {X : SX} {c0 c1 c2 c3 c4 : Option Value} {x : Int32} {t : LS0} {st : List Value} {σ : SH} : exD X 196 91 (c0 :: c1 :: c2 :: c3 :: c4 :: some (.int x) :: t) st σ = exD X 196 93 (c0 :: c1 :: c2 :: c3 :: c4 :: some (.int x) :: t) (.int x :: st) σ := g_iload_5 rfl
theorem a196_93 {X : SX} {ls : LS0} {st : List Value} {σ : SH} : exD X 196 93 ls st σ = exD X 196 94 ls (.int 1 :: st) σ := g_iconst rfl
theorem a196_94 {X : SX} {ls : LS0} {st : List Value} {σ : SH} {x y : Int32} : exD X 196 94 ls (.int y :: .int x :: st) σ = exD X 196 95 ls (.int (x + y) :: st) σ := g_iadd rfl
theorem a196_95 {X : SX} {c0 c1 c2 c3 c4 : Option Value} {x : Int32} {t : LS0} {st : List Value} {σ : SH} : exD X 196 95 (c0 :: c1 :: c2 :: c3 :: c4 :: t) (.int x :: st) σ = exD X 196 97 (stS 4 (.int x) (c0 :: c1 :: c2 :: c3 :: c4 :: t)) st σ := g_istore_4 rfl
theorem a196_97 {X : SX} {c0 c1 c2 c3 c4 : Option Value} {x : Int32} {t : LS0} {st : List Value} {σ : SH} : exD X 196 97 (c0 :: c1 :: c2 :: c3 :: c4 :: some (.int x) :: t) st σ = exD X 196 100 (stS 5 (.int (x + 1)) (c0 :: c1 :: c2 :: c3 :: c4 :: some (.int x) :: t)) st σ := g_iinc_5 rfl
theorem a196_100 {X : SX} {ls : LS0} {st : List Value} {σ : SH} : exD X 196 100 ls st σ = exD X 196 55 ls st σ := g_goto rfl
theorem a196_103 {X : SX} {c0 c1 : Option Value} {x : Int32} {t : LS0} {st : List Value} {σ : SH} : exD X 196 103 (c0 :: c1 :: some (.int x) :: t) st σ = exD X 196 104 (c0 :: c1 :: some (.int x) :: t) (.int x :: st) σ := g_iload_2 rfl
theorem a196_104 {X : SX} {ls : LS0} {st : List Value} {σ : SH} {x : Int32} : exD X 196 104 ls (.int x :: st) σ = if x = 0 then exD X 196 107 ls st σ else exD X 196 111 ls st σ := g_ifCond_ne rfl
theorem a196_107 {X : SX} {c0 c1 c2 : Option Value} {x : Int32} {t : LS0} {st : List Value} {σ : SH} : exD X 196 107 (c0 :: c1 :: c2 :: some (.int x) :: t) st σ = exD X 196 108 (c0 :: c1 :: c2 :: some (.int x) :: t) (.int x :: st) σ := g_iload_3 rfl
theorem a196_108 {X : SX} {ls : LS0} {st : List Value} {σ : SH} : exD X 196 108 ls st σ = exD X 196 113 ls st σ := g_goto rfl
theorem a196_111 {X : SX} {c0 c1 c2 c3 : Option Value} {x : Int32} {t : LS0} {st : List Value} {σ : SH} : exD X 196 111 (c0 :: c1 :: c2 :: c3 :: some (.int x) :: t) st σ = exD X 196 113 (c0 :: c1 :: c2 :: c3 :: some (.int x) :: t) (.int x :: st) σ := g_iload_4 rfl
theorem a196_113 {X : SX} {x : Nat} {t : LS0} {st : List Value} {σ : SH} : exD X 196 113 (some (.ref x) :: t) st σ = exD X 196 114 (some (.ref x) :: t) (.ref x :: st) σ := g_aload_0 rfl
theorem a196_114 {X : SX} {ls : LS0} {st : List Value} {I : Nat → Nat → Int32} {L : Nat → Nat → Int64} {b : Nat} (hb : hk (ms I L) b = some (0, 10)) : exD X 196 114 ls (.ref b :: st) (ms I L) = exD X 196 117 ls (.int (I b 16) :: st) (ms I L) := g_gfI (e := (10, 183, 10, 16)) rfl rfl (by decide +kernel) hb
theorem a196_117 {X : SX} {ls : LS0} {st : List Value} {σ : SH} {x y : Int32} : exD X 196 117 ls (.int y :: .int x :: st) σ = exD X 196 118 ls (.int (x - y) :: st) σ := g_isub rfl
theorem a196_118 {X : SX} {c0 c1 c2 c3 c4 c5 : Option Value} {x : Int32} {t : LS0} {st : List Value} {σ : SH} : exD X 196 118 (c0 :: c1 :: c2 :: c3 :: c4 :: c5 :: t) (.int x :: st) σ = exD X 196 120 (stS 5 (.int x) (c0 :: c1 :: c2 :: c3 :: c4 :: c5 :: t)) st σ := g_istore_5 rfl
theorem a196_120 {X : SX} {c0 c1 c2 c3 c4 : Option Value} {x : Int32} {t : LS0} {st : List Value} {σ : SH} : exD X 196 120 (c0 :: c1 :: c2 :: c3 :: c4 :: some (.int x) :: t) st σ = exD X 196 122 (c0 :: c1 :: c2 :: c3 :: c4 :: some (.int x) :: t) (.int x :: st) σ := g_iload_5 rfl
theorem a196_122 {X : SX} {ls : LS0} {st : List Value} {σ : SH} {x : Int32} : exD X 196 122 ls (.int x :: st) σ = if 0 ≤ x then exD X 196 129 ls st σ else exD X 196 125 ls st σ := g_ifCond_ge rfl
theorem a196_125 {X : SX} {ls : LS0} {st : List Value} {σ : SH} : exD X 196 125 ls st σ = exD X 196 126 ls (.int 0 :: st) σ := g_iconst rfl
theorem a196_126 {X : SX} {ls : LS0} {st : List Value} {σ : SH} : exD X 196 126 ls st σ = exD X 196 131 ls st σ := g_goto rfl
theorem a196_129 {X : SX} {c0 c1 c2 c3 c4 : Option Value} {x : Int32} {t : LS0} {st : List Value} {σ : SH} : exD X 196 129 (c0 :: c1 :: c2 :: c3 :: c4 :: some (.int x) :: t) st σ = exD X 196 131 (c0 :: c1 :: c2 :: c3 :: c4 :: some (.int x) :: t) (.int x :: st) σ := g_iload_5 rfl
theorem a196_131 {X : SX} {ls : LS0} {σ : SH} {x : Int32} : exD X 196 131 ls [.int x] σ = some (some (.int x), σ) := g_iret rfl rfl
theorem a197_0 {X : SX} {c0 : Option Value} {x : Int32} {t : LS0} {st : List Value} {σ : SH} : exD X 197 0 (c0 :: some (.int x) :: t) st σ = exD X 197 1 (c0 :: some (.int x) :: t) (.int x :: st) σ := g_iload_1 rfl
theorem a197_1 {X : SX} {ls : LS0} {st : List Value} {σ : SH} : exD X 197 1 ls st σ = exD X 197 2 ls (.int 1 :: st) σ := g_iconst rfl
theorem a197_2 {X : SX} {ls : LS0} {st : List Value} {σ : SH} : exD X 197 2 ls st σ = exD X 197 4 ls (.int 50 :: st) σ := g_bipush rfl
theorem a197_4 {X : SX} {ls : LS0} {st : List Value} {σ : SH} {w0 : Int32} {w1 : Int32} {w2 : Int32} (h8 : cS st ≤ 8) : exD X 197 4 ls (.int w2 :: .int w1 :: .int w0 :: st) σ = cR (caD X 125 [.int w0, .int w1, .int w2] σ) (fun w s => exD X 197 7 ls (psh w st) s) := g_cs rfl rfl (Or.inl rfl) rfl (Nat.le_of_ble_eq_true rfl) h8
theorem a197_7 {X : SX} {c0 c1 c2 c3 : Option Value} {x : Int32} {t : LS0} {st : List Value} {σ : SH} : exD X 197 7 (c0 :: c1 :: c2 :: c3 :: t) (.int x :: st) σ = exD X 197 8 (stS 3 (.int x) (c0 :: c1 :: c2 :: c3 :: t)) st σ := g_istore_3 rfl
theorem a197_8 {X : SX} {c0 c1 c2 : Option Value} {x : Int32} {t : LS0} {st : List Value} {σ : SH} : exD X 197 8 (c0 :: c1 :: c2 :: some (.int x) :: t) st σ = exD X 197 9 (c0 :: c1 :: c2 :: some (.int x) :: t) (.int x :: st) σ := g_iload_3 rfl
theorem a197_9 {X : SX} {ls : LS0} {st : List Value} {σ : SH} {x : Int32} : exD X 197 9 ls (.int x :: st) σ = if x = 0 then exD X 197 18 ls st σ else exD X 197 12 ls st σ := g_ifCond_eq rfl
theorem a197_12 {X : SX} {x : Nat} {t : LS0} {st : List Value} {σ : SH} : exD X 197 12 (some (.ref x) :: t) st σ = exD X 197 13 (some (.ref x) :: t) (.ref x :: st) σ := g_aload_0 rfl
theorem a197_13 {X : SX} {c0 c1 c2 : Option Value} {x : Int32} {t : LS0} {st : List Value} {σ : SH} : exD X 197 13 (c0 :: c1 :: c2 :: some (.int x) :: t) st σ = exD X 197 14 (c0 :: c1 :: c2 :: some (.int x) :: t) (.int x :: st) σ := g_iload_3 rfl
theorem a197_14 {X : SX} {ls : LS0} {st : List Value} {I : Nat → Nat → Int32} {L : Nat → Nat → Int64} {w0 : Int32} {b : Nat} (hb : hk (ms I L) b = some (0, 10)) (h8 : cS st ≤ 8) : exD X 197 14 ls (.int w0 :: .ref b :: st) (ms I L) = cR (caD X 121 [.ref b, .int w0] (ms I L)) (fun w s => exD X 197 17 ls (psh w st) s) := g_cv rfl rfl rfl (Nat.le_of_ble_eq_true rfl) h8 hb
theorem a197_17 {X : SX} {ls : LS0} {σ : SH} {x : Int32} : exD X 197 17 ls [.int x] σ = some (some (.int x), σ) := g_iret rfl rfl
theorem a197_18 {X : SX} {x : Nat} {t : LS0} {st : List Value} {σ : SH} : exD X 197 18 (some (.ref x) :: t) st σ = exD X 197 19 (some (.ref x) :: t) (.ref x :: st) σ := g_aload_0 rfl
theorem a197_19 {X : SX} {ls : LS0} {st : List Value} {σ : SH} : exD X 197 19 ls st σ = exD X 197 20 ls (.int 1 :: st) σ := g_iconst rfl
theorem a197_20 {X : SX} {ls : LS0} {st : List Value} {σ : SH} : exD X 197 20 ls st σ = exD X 197 21 ls (.int 1 :: st) σ := g_iconst rfl
theorem a197_21 {X : SX} {ls : LS0} {st : List Value} {I : Nat → Nat → Int32} {L : Nat → Nat → Int64} {w0 : Int32} {w1 : Int32} {b : Nat} (hb : hk (ms I L) b = some (0, 10)) (h8 : cS st ≤ 8) : exD X 197 21 ls (.int w1 :: .int w0 :: .ref b :: st) (ms I L) = cR (caD X 144 [.ref b, .int w0, .int w1] (ms I L)) (fun w s => exD X 197 24 ls (psh w st) s) := g_cv rfl rfl rfl (Nat.le_of_ble_eq_true rfl) h8 hb
theorem a197_24 {X : SX} {c0 c1 : Option Value} {x : Int32} {t : LS0} {st : List Value} {σ : SH} : exD X 197 24 (c0 :: c1 :: some (.int x) :: t) st σ = exD X 197 25 (c0 :: c1 :: some (.int x) :: t) (.int x :: st) σ := g_iload_2 rfl
theorem a197_25 {X : SX} {c0 c1 c2 c3 c4 : Option Value} {x : Int32} {t : LS0} {st : List Value} {σ : SH} : exD X 197 25 (c0 :: c1 :: c2 :: c3 :: c4 :: t) (.int x :: st) σ = exD X 197 27 (stS 4 (.int x) (c0 :: c1 :: c2 :: c3 :: c4 :: t)) st σ := g_istore_4 rfl
theorem a197_27 {X : SX} {ls : LS0} {st : List Value} {σ : SH} : exD X 197 27 ls st σ = exD X 197 28 ls (.int 0 :: st) σ := g_iconst rfl
theorem a197_28 {X : SX} {c0 c1 c2 c3 c4 c5 : Option Value} {x : Int32} {t : LS0} {st : List Value} {σ : SH} : exD X 197 28 (c0 :: c1 :: c2 :: c3 :: c4 :: c5 :: t) (.int x :: st) σ = exD X 197 30 (stS 5 (.int x) (c0 :: c1 :: c2 :: c3 :: c4 :: c5 :: t)) st σ := g_istore_5 rfl
theorem a197_30 {X : SX} {c0 c1 c2 c3 c4 : Option Value} {x : Int32} {t : LS0} {st : List Value} {σ : SH} : exD X 197 30 (c0 :: c1 :: c2 :: c3 :: c4 :: some (.int x) :: t) st σ = exD X 197 32 (c0 :: c1 :: c2 :: c3 :: c4 :: some (.int x) :: t) (.int x :: st) σ := g_iload_5 rfl
theorem a197_32 {X : SX} {c0 : Option Value} {x : Int32} {t : LS0} {st : List Value} {σ : SH} : exD X 197 32 (c0 :: some (.int x) :: t) st σ = exD X 197 33 (c0 :: some (.int x) :: t) (.int x :: st) σ := g_iload_1 rfl
theorem a197_33 {X : SX} {ls : LS0} {st : List Value} {σ : SH} {x y : Int32} : exD X 197 33 ls (.int y :: .int x :: st) σ = if y ≤ x then exD X 197 80 ls st σ else exD X 197 36 ls st σ := g_if_icmp_ge rfl
theorem a197_36 {X : SX} {c0 c1 c2 c3 : Option Value} {x : Int32} {t : LS0} {st : List Value} {σ : SH} : exD X 197 36 (c0 :: c1 :: c2 :: c3 :: some (.int x) :: t) st σ = exD X 197 38 (c0 :: c1 :: c2 :: c3 :: some (.int x) :: t) (.int x :: st) σ := g_iload_4 rfl
theorem a197_38 {X : SX} {ls : LS0} {st : List Value} {σ : SH} : exD X 197 38 ls st σ = exD X 197 41 ls (.int 1103515245 :: st) σ := g_ldc_w rfl
theorem a197_41 {X : SX} {ls : LS0} {st : List Value} {σ : SH} {x y : Int32} : exD X 197 41 ls (.int y :: .int x :: st) σ = exD X 197 42 ls (.int (x * y) :: st) σ := g_imul rfl
theorem a197_42 {X : SX} {ls : LS0} {st : List Value} {σ : SH} : exD X 197 42 ls st σ = exD X 197 45 ls (.int 12345 :: st) σ := g_sipush rfl
theorem a197_45 {X : SX} {ls : LS0} {st : List Value} {σ : SH} {x y : Int32} : exD X 197 45 ls (.int y :: .int x :: st) σ = exD X 197 46 ls (.int (x + y) :: st) σ := g_iadd rfl
theorem a197_46 {X : SX} {c0 c1 c2 c3 c4 : Option Value} {x : Int32} {t : LS0} {st : List Value} {σ : SH} : exD X 197 46 (c0 :: c1 :: c2 :: c3 :: c4 :: t) (.int x :: st) σ = exD X 197 48 (stS 4 (.int x) (c0 :: c1 :: c2 :: c3 :: c4 :: t)) st σ := g_istore_4 rfl
theorem a197_48 {X : SX} {x : Nat} {t : LS0} {st : List Value} {σ : SH} : exD X 197 48 (some (.ref x) :: t) st σ = exD X 197 49 (some (.ref x) :: t) (.ref x :: st) σ := g_aload_0 rfl
theorem a197_49 {X : SX} {c0 c1 c2 c3 : Option Value} {x : Int32} {t : LS0} {st : List Value} {σ : SH} : exD X 197 49 (c0 :: c1 :: c2 :: c3 :: some (.int x) :: t) st σ = exD X 197 51 (c0 :: c1 :: c2 :: c3 :: some (.int x) :: t) (.int x :: st) σ := g_iload_4 rfl
theorem a197_51 {X : SX} {ls : LS0} {st : List Value} {σ : SH} : exD X 197 51 ls st σ = exD X 197 54 ls (.int 2147483647 :: st) σ := g_ldc_w rfl
theorem a197_54 {X : SX} {ls : LS0} {st : List Value} {σ : SH} {x y : Int32} : exD X 197 54 ls (.int y :: .int x :: st) σ = exD X 197 55 ls (.int (x &&& y) :: st) σ := g_iand rfl
theorem a197_55 {X : SX} {ls : LS0} {st : List Value} {σ : SH} : exD X 197 55 ls st σ = exD X 197 58 ls (.int 65536 :: st) σ := g_ldc_w rfl
theorem a197_58 {X : SX} {ls : LS0} {st : List Value} {σ : SH} {x y : Int32} : exD X 197 58 ls (.int y :: .int x :: st) σ = if y = 0 then none else exD X 197 59 ls (.int (x / y) :: st) σ := g_idiv rfl
theorem a197_59 {X : SX} {ls : LS0} {st : List Value} {σ : SH} : exD X 197 59 ls st σ = exD X 197 60 ls (.int 4 :: st) σ := g_iconst rfl
theorem a197_60 {X : SX} {ls : LS0} {st : List Value} {σ : SH} {x y : Int32} : exD X 197 60 ls (.int y :: .int x :: st) σ = if y = 0 then none else exD X 197 61 ls (.int (x - x / y * y) :: st) σ := g_irem rfl
theorem a197_61 {X : SX} {ls : LS0} {st : List Value} {I : Nat → Nat → Int32} {L : Nat → Nat → Int64} {b : Nat} {x : Int32} (hb : hk (ms I L) b = some (0, 10)) : exD X 197 61 ls (.int x :: .ref b :: st) (ms I L) = exD X 197 64 ls st (ms (u2 I b 17 x) L) := g_pfI (e := (10, 186, 10, 17)) rfl rfl (by decide +kernel) hb
theorem a197_64 {X : SX} {x : Nat} {t : LS0} {st : List Value} {σ : SH} : exD X 197 64 (some (.ref x) :: t) st σ = exD X 197 65 (some (.ref x) :: t) (.ref x :: st) σ := g_aload_0 rfl
theorem a197_65 {X : SX} {ls : LS0} {st : List Value} {σ : SH} : exD X 197 65 ls st σ = exD X 197 67 ls (.int (-9) :: st) σ := g_bipush rfl
theorem a197_67 {X : SX} {ls : LS0} {st : List Value} {σ : SH} : exD X 197 67 ls st σ = exD X 197 69 ls (.int (-9) :: st) σ := g_bipush rfl
theorem a197_69 {X : SX} {ls : LS0} {st : List Value} {σ : SH} : exD X 197 69 ls st σ = exD X 197 71 ls (.int (-9) :: st) σ := g_bipush rfl
theorem a197_71 {X : SX} {ls : LS0} {st : List Value} {I : Nat → Nat → Int32} {L : Nat → Nat → Int64} {w0 : Int32} {w1 : Int32} {w2 : Int32} {b : Nat} (hb : hk (ms I L) b = some (0, 10)) (h8 : cS st ≤ 8) : exD X 197 71 ls (.int w2 :: .int w1 :: .int w0 :: .ref b :: st) (ms I L) = cR (caD X 149 [.ref b, .int w0, .int w1, .int w2] (ms I L)) (fun w s => exD X 197 74 ls (psh w st) s) := g_cv rfl rfl rfl (Nat.le_of_ble_eq_true rfl) h8 hb
theorem a197_74 {X : SX} {c0 c1 c2 c3 c4 : Option Value} {x : Int32} {t : LS0} {st : List Value} {σ : SH} : exD X 197 74 (c0 :: c1 :: c2 :: c3 :: c4 :: some (.int x) :: t) st σ = exD X 197 77 (stS 5 (.int (x + 1)) (c0 :: c1 :: c2 :: c3 :: c4 :: some (.int x) :: t)) st σ := g_iinc_5 rfl
theorem a197_77 {X : SX} {ls : LS0} {st : List Value} {σ : SH} : exD X 197 77 ls st σ = exD X 197 30 ls st σ := g_goto rfl
theorem a197_80 {X : SX} {x : Nat} {t : LS0} {st : List Value} {σ : SH} : exD X 197 80 (some (.ref x) :: t) st σ = exD X 197 81 (some (.ref x) :: t) (.ref x :: st) σ := g_aload_0 rfl
theorem a197_81 {X : SX} {ls : LS0} {st : List Value} {I : Nat → Nat → Int32} {L : Nat → Nat → Int64} {b : Nat} (hb : hk (ms I L) b = some (0, 10)) (h8 : cS st ≤ 8) : exD X 197 81 ls (.ref b :: st) (ms I L) = cR (caD X 198 [.ref b] (ms I L)) (fun w s => exD X 197 84 ls (psh w st) s) := g_cv rfl rfl rfl (Nat.le_of_ble_eq_true rfl) h8 hb
theorem a197_84 {X : SX} {c0 c1 c2 c3 c4 c5 : Option Value} {x : Int32} {t : LS0} {st : List Value} {σ : SH} : exD X 197 84 (c0 :: c1 :: c2 :: c3 :: c4 :: c5 :: t) (.int x :: st) σ = exD X 197 86 (stS 5 (.int x) (c0 :: c1 :: c2 :: c3 :: c4 :: c5 :: t)) st σ := g_istore_5 rfl
theorem a197_86 {X : SX} {x : Nat} {t : LS0} {st : List Value} {σ : SH} : exD X 197 86 (some (.ref x) :: t) st σ = exD X 197 87 (some (.ref x) :: t) (.ref x :: st) σ := g_aload_0 rfl
theorem a197_87 {X : SX} {ls : LS0} {st : List Value} {σ : SH} : exD X 197 87 ls st σ = exD X 197 88 ls (.int 1 :: st) σ := g_iconst rfl
theorem a197_88 {X : SX} {ls : LS0} {st : List Value} {σ : SH} : exD X 197 88 ls st σ = exD X 197 89 ls (.int 0 :: st) σ := g_iconst rfl
theorem a197_89 {X : SX} {ls : LS0} {st : List Value} {I : Nat → Nat → Int32} {L : Nat → Nat → Int64} {w0 : Int32} {w1 : Int32} {b : Nat} (hb : hk (ms I L) b = some (0, 10)) (h8 : cS st ≤ 8) : exD X 197 89 ls (.int w1 :: .int w0 :: .ref b :: st) (ms I L) = cR (caD X 144 [.ref b, .int w0, .int w1] (ms I L)) (fun w s => exD X 197 92 ls (psh w st) s) := g_cv rfl rfl rfl (Nat.le_of_ble_eq_true rfl) h8 hb
theorem a197_92 {X : SX} {c0 c1 c2 c3 c4 : Option Value} {x : Int32} {t : LS0} {st : List Value} {σ : SH} : exD X 197 92 (c0 :: c1 :: c2 :: c3 :: c4 :: some (.int x) :: t) st σ = exD X 197 94 (c0 :: c1 :: c2 :: c3 :: c4 :: some (.int x) :: t) (.int x :: st) σ := g_iload_5 rfl
theorem a197_94 {X : SX} {ls : LS0} {σ : SH} {x : Int32} : exD X 197 94 ls [.int x] σ = some (some (.int x), σ) := g_iret rfl rfl
theorem a198_0 {X : SX} {ls : LS0} {st : List Value} {σ : SH} : exD X 198 0 ls st σ = exD X 198 1 ls (.int 0 :: st) σ := g_iconst rfl
theorem a198_1 {X : SX} {c0 c1 : Option Value} {x : Int32} {t : LS0} {st : List Value} {σ : SH} : exD X 198 1 (c0 :: c1 :: t) (.int x :: st) σ = exD X 198 2 (stS 1 (.int x) (c0 :: c1 :: t)) st σ := g_istore_1 rfl
theorem a198_2 {X : SX} {ls : LS0} {st : List Value} {σ : SH} : exD X 198 2 ls st σ = exD X 198 3 ls (.int 0 :: st) σ := g_iconst rfl
theorem a198_3 {X : SX} {c0 c1 c2 : Option Value} {x : Int32} {t : LS0} {st : List Value} {σ : SH} : exD X 198 3 (c0 :: c1 :: c2 :: t) (.int x :: st) σ = exD X 198 4 (stS 2 (.int x) (c0 :: c1 :: c2 :: t)) st σ := g_istore_2 rfl
theorem a198_4 {X : SX} {c0 c1 : Option Value} {x : Int32} {t : LS0} {st : List Value} {σ : SH} : exD X 198 4 (c0 :: c1 :: some (.int x) :: t) st σ = exD X 198 5 (c0 :: c1 :: some (.int x) :: t) (.int x :: st) σ := g_iload_2 rfl
theorem a198_5 {X : SX} {x : Nat} {t : LS0} {st : List Value} {σ : SH} : exD X 198 5 (some (.ref x) :: t) st σ = exD X 198 6 (some (.ref x) :: t) (.ref x :: st) σ := g_aload_0 rfl
theorem a198_6 {X : SX} {ls : LS0} {st : List Value} {I : Nat → Nat → Int32} {L : Nat → Nat → Int64} {b : Nat} (hb : hk (ms I L) b = some (0, 10)) : exD X 198 6 ls (.ref b :: st) (ms I L) = exD X 198 9 ls (.int (I b 13) :: st) (ms I L) := g_gfI (e := (10, 49, 10, 13)) rfl rfl (by decide +kernel) hb
theorem a198_9 {X : SX} {ls : LS0} {st : List Value} {σ : SH} {x y : Int32} : exD X 198 9 ls (.int y :: .int x :: st) σ = if y ≤ x then exD X 198 27 ls st σ else exD X 198 12 ls st σ := g_if_icmp_ge rfl
theorem a198_12 {X : SX} {c0 : Option Value} {x : Int32} {t : LS0} {st : List Value} {σ : SH} : exD X 198 12 (c0 :: some (.int x) :: t) st σ = exD X 198 13 (c0 :: some (.int x) :: t) (.int x :: st) σ := g_iload_1 rfl
theorem a198_13 {X : SX} {x : Nat} {t : LS0} {st : List Value} {σ : SH} : exD X 198 13 (some (.ref x) :: t) st σ = exD X 198 14 (some (.ref x) :: t) (.ref x :: st) σ := g_aload_0 rfl
theorem a198_14 {X : SX} {ls : LS0} {st : List Value} {I : Nat → Nat → Int32} {L : Nat → Nat → Int64} {b : Nat} (hb : hk (ms I L) b = some (0, 10)) : exD X 198 14 ls (.ref b :: st) (ms I L) = gR (PP b 1) (fun q => exD X 198 17 ls (.ref q :: st) (ms I L)) := g_gfR (e := (10, 13, 10, 1)) rfl rfl (by decide +kernel) hb
theorem a198_17 {X : SX} {c0 c1 : Option Value} {x : Int32} {t : LS0} {st : List Value} {σ : SH} : exD X 198 17 (c0 :: c1 :: some (.int x) :: t) st σ = exD X 198 18 (c0 :: c1 :: some (.int x) :: t) (.int x :: st) σ := g_iload_2 rfl
theorem a198_18 {X : SX} {ls : LS0} {st : List Value} {I : Nat → Nat → Int32} {L : Nat → Nat → Int64} {b : Nat} {i : Int32} (hb : b < 4096) : exD X 198 18 ls (.int i :: .ref b :: st) (ms I L) = iaR (hk (ms I L) b) i (exD X 198 19 ls (.int (I b i.toNatClampNeg) :: st) (ms I L)) := g_iald rfl hb
theorem a198_19 {X : SX} {ls : LS0} {st : List Value} {σ : SH} {x y : Int32} : exD X 198 19 ls (.int y :: .int x :: st) σ = exD X 198 20 ls (.int (x + y) :: st) σ := g_iadd rfl
theorem a198_20 {X : SX} {c0 c1 : Option Value} {x : Int32} {t : LS0} {st : List Value} {σ : SH} : exD X 198 20 (c0 :: c1 :: t) (.int x :: st) σ = exD X 198 21 (stS 1 (.int x) (c0 :: c1 :: t)) st σ := g_istore_1 rfl
theorem a198_21 {X : SX} {c0 c1 : Option Value} {x : Int32} {t : LS0} {st : List Value} {σ : SH} : exD X 198 21 (c0 :: c1 :: some (.int x) :: t) st σ = exD X 198 24 (stS 2 (.int (x + 1)) (c0 :: c1 :: some (.int x) :: t)) st σ := g_iinc_2 rfl
theorem a198_24 {X : SX} {ls : LS0} {st : List Value} {σ : SH} : exD X 198 24 ls st σ = exD X 198 4 ls st σ := g_goto rfl
theorem a198_27 {X : SX} {c0 : Option Value} {x : Int32} {t : LS0} {st : List Value} {σ : SH} : exD X 198 27 (c0 :: some (.int x) :: t) st σ = exD X 198 28 (c0 :: some (.int x) :: t) (.int x :: st) σ := g_iload_1 rfl
theorem a198_28 {X : SX} {ls : LS0} {σ : SH} {x : Int32} : exD X 198 28 ls [.int x] σ = some (some (.int x), σ) := g_iret rfl rfl
theorem a199_0 {X : SX} {c0 : Option Value} {x : Int32} {t : LS0} {st : List Value} {σ : SH} : exD X 199 0 (c0 :: some (.int x) :: t) st σ = exD X 199 1 (c0 :: some (.int x) :: t) (.int x :: st) σ := g_iload_1 rfl
theorem a199_1 {X : SX} {ls : LS0} {st : List Value} {σ : SH} : exD X 199 1 ls st σ = exD X 199 3 ls (.int 11 :: st) σ := g_bipush rfl
theorem a199_3 {X : SX} {ls : LS0} {st : List Value} {σ : SH} : exD X 199 3 ls st σ = exD X 199 5 ls (.int 16 :: st) σ := g_bipush rfl
theorem a199_5 {X : SX} {ls : LS0} {st : List Value} {σ : SH} {w0 : Int32} {w1 : Int32} {w2 : Int32} (h8 : cS st ≤ 8) : exD X 199 5 ls (.int w2 :: .int w1 :: .int w0 :: st) σ = cR (caD X 124 [.int w0, .int w1, .int w2] σ) (fun w s => exD X 199 8 ls (psh w st) s) := g_cs rfl rfl (Or.inl rfl) rfl (Nat.le_of_ble_eq_true rfl) h8
theorem a199_8 {X : SX} {ls : LS0} {st : List Value} {σ : SH} {x : Int32} : exD X 199 8 ls (.int x :: st) σ = if x = 0 then exD X 199 21 ls st σ else exD X 199 11 ls st σ := g_ifCond_eq rfl
theorem a199_11 {X : SX} {x : Nat} {t : LS0} {st : List Value} {σ : SH} : exD X 199 11 (some (.ref x) :: t) st σ = exD X 199 12 (some (.ref x) :: t) (.ref x :: st) σ := g_aload_0 rfl
theorem a199_12 {X : SX} {ls : LS0} {st : List Value} {I : Nat → Nat → Int32} {L : Nat → Nat → Int64} {b : Nat} (hb : hk (ms I L) b = some (0, 10)) : exD X 199 12 ls (.ref b :: st) (ms I L) = gR (PP b 0) (fun q => exD X 199 15 ls (.ref q :: st) (ms I L)) := g_gfR (e := (10, 7, 10, 0)) rfl rfl (by decide +kernel) hb
theorem a199_15 {X : SX} {c0 : Option Value} {x : Int32} {t : LS0} {st : List Value} {σ : SH} : exD X 199 15 (c0 :: some (.int x) :: t) st σ = exD X 199 16 (c0 :: some (.int x) :: t) (.int x :: st) σ := g_iload_1 rfl
theorem a199_16 {X : SX} {ls : LS0} {st : List Value} {σ : SH} : exD X 199 16 ls st σ = exD X 199 18 ls (.int 10 :: st) σ := g_bipush rfl
theorem a199_18 {X : SX} {ls : LS0} {st : List Value} {σ : SH} {x y : Int32} : exD X 199 18 ls (.int y :: .int x :: st) σ = exD X 199 19 ls (.int (x - y) :: st) σ := g_isub rfl
theorem a199_19 {X : SX} {ls : LS0} {st : List Value} {I : Nat → Nat → Int32} {L : Nat → Nat → Int64} {b : Nat} {i : Int32} (hb : b < 4096) : exD X 199 19 ls (.int i :: .ref b :: st) (ms I L) = iaR (hk (ms I L) b) i (exD X 199 20 ls (.int (I b i.toNatClampNeg) :: st) (ms I L)) := g_iald rfl hb
theorem a199_20 {X : SX} {ls : LS0} {σ : SH} {x : Int32} : exD X 199 20 ls [.int x] σ = some (some (.int x), σ) := g_iret rfl rfl
theorem a199_21 {X : SX} {ls : LS0} {st : List Value} {σ : SH} : exD X 199 21 ls st σ = exD X 199 22 ls (.int 0 :: st) σ := g_iconst rfl
theorem a199_22 {X : SX} {c0 c1 c2 : Option Value} {x : Int32} {t : LS0} {st : List Value} {σ : SH} : exD X 199 22 (c0 :: c1 :: c2 :: t) (.int x :: st) σ = exD X 199 23 (stS 2 (.int x) (c0 :: c1 :: c2 :: t)) st σ := g_istore_2 rfl
theorem a199_23 {X : SX} {c0 : Option Value} {x : Int32} {t : LS0} {st : List Value} {σ : SH} : exD X 199 23 (c0 :: some (.int x) :: t) st σ = exD X 199 24 (c0 :: some (.int x) :: t) (.int x :: st) σ := g_iload_1 rfl
theorem a199_24 {X : SX} {ls : LS0} {st : List Value} {σ : SH} {x : Int32} : exD X 199 24 ls (.int x :: st) σ = swE X 199 147 x ls st σ [(0, 72), (1, 77), (2, 82), (3, 87), (4, 92), (5, 97), (6, 102), (7, 107)] := g_tableswitch rfl
theorem a199_72 {X : SX} {x : Nat} {t : LS0} {st : List Value} {σ : SH} : exD X 199 72 (some (.ref x) :: t) st σ = exD X 199 73 (some (.ref x) :: t) (.ref x :: st) σ := g_aload_0 rfl
theorem a199_73 {X : SX} {ls : LS0} {st : List Value} {I : Nat → Nat → Int32} {L : Nat → Nat → Int64} {b : Nat} (hb : hk (ms I L) b = some (0, 10)) : exD X 199 73 ls (.ref b :: st) (ms I L) = exD X 199 76 ls (.int (I b 13) :: st) (ms I L) := g_gfI (e := (10, 49, 10, 13)) rfl rfl (by decide +kernel) hb
theorem a199_76 {X : SX} {ls : LS0} {σ : SH} {x : Int32} : exD X 199 76 ls [.int x] σ = some (some (.int x), σ) := g_iret rfl rfl
theorem a199_77 {X : SX} {x : Nat} {t : LS0} {st : List Value} {σ : SH} : exD X 199 77 (some (.ref x) :: t) st σ = exD X 199 78 (some (.ref x) :: t) (.ref x :: st) σ := g_aload_0 rfl
theorem a199_78 {X : SX} {ls : LS0} {st : List Value} {I : Nat → Nat → Int32} {L : Nat → Nat → Int64} {b : Nat} (hb : hk (ms I L) b = some (0, 10)) : exD X 199 78 ls (.ref b :: st) (ms I L) = exD X 199 81 ls (.int (I b 14) :: st) (ms I L) := g_gfI (e := (10, 99, 10, 14)) rfl rfl (by decide +kernel) hb
theorem a199_81 {X : SX} {ls : LS0} {σ : SH} {x : Int32} : exD X 199 81 ls [.int x] σ = some (some (.int x), σ) := g_iret rfl rfl
theorem a199_82 {X : SX} {x : Nat} {t : LS0} {st : List Value} {σ : SH} : exD X 199 82 (some (.ref x) :: t) st σ = exD X 199 83 (some (.ref x) :: t) (.ref x :: st) σ := g_aload_0 rfl
theorem a199_83 {X : SX} {ls : LS0} {st : List Value} {I : Nat → Nat → Int32} {L : Nat → Nat → Int64} {b : Nat} (hb : hk (ms I L) b = some (0, 10)) : exD X 199 83 ls (.ref b :: st) (ms I L) = exD X 199 86 ls (.int (I b 15) :: st) (ms I L) := g_gfI (e := (10, 102, 10, 15)) rfl rfl (by decide +kernel) hb
theorem a199_86 {X : SX} {ls : LS0} {σ : SH} {x : Int32} : exD X 199 86 ls [.int x] σ = some (some (.int x), σ) := g_iret rfl rfl
theorem a199_87 {X : SX} {x : Nat} {t : LS0} {st : List Value} {σ : SH} : exD X 199 87 (some (.ref x) :: t) st σ = exD X 199 88 (some (.ref x) :: t) (.ref x :: st) σ := g_aload_0 rfl
theorem a199_88 {X : SX} {ls : LS0} {st : List Value} {I : Nat → Nat → Int32} {L : Nat → Nat → Int64} {b : Nat} (hb : hk (ms I L) b = some (0, 10)) : exD X 199 88 ls (.ref b :: st) (ms I L) = exD X 199 91 ls (.int (I b 16) :: st) (ms I L) := g_gfI (e := (10, 183, 10, 16)) rfl rfl (by decide +kernel) hb
theorem a199_91 {X : SX} {ls : LS0} {σ : SH} {x : Int32} : exD X 199 91 ls [.int x] σ = some (some (.int x), σ) := g_iret rfl rfl
theorem a199_92 {X : SX} {x : Nat} {t : LS0} {st : List Value} {σ : SH} : exD X 199 92 (some (.ref x) :: t) st σ = exD X 199 93 (some (.ref x) :: t) (.ref x :: st) σ := g_aload_0 rfl
theorem a199_93 {X : SX} {ls : LS0} {st : List Value} {I : Nat → Nat → Int32} {L : Nat → Nat → Int64} {b : Nat} (hb : hk (ms I L) b = some (0, 10)) (h8 : cS st ≤ 8) : exD X 199 93 ls (.ref b :: st) (ms I L) = cR (caD X 198 [.ref b] (ms I L)) (fun w s => exD X 199 96 ls (psh w st) s) := g_cv rfl rfl rfl (Nat.le_of_ble_eq_true rfl) h8 hb
theorem a199_96 {X : SX} {ls : LS0} {σ : SH} {x : Int32} : exD X 199 96 ls [.int x] σ = some (some (.int x), σ) := g_iret rfl rfl
theorem a199_97 {X : SX} {x : Nat} {t : LS0} {st : List Value} {σ : SH} : exD X 199 97 (some (.ref x) :: t) st σ = exD X 199 98 (some (.ref x) :: t) (.ref x :: st) σ := g_aload_0 rfl
theorem a199_98 {X : SX} {ls : LS0} {st : List Value} {I : Nat → Nat → Int32} {L : Nat → Nat → Int64} {b : Nat} (hb : hk (ms I L) b = some (0, 10)) : exD X 199 98 ls (.ref b :: st) (ms I L) = exD X 199 101 ls (.int (I b 25) :: st) (ms I L) := g_gfI (e := (10, 109, 10, 25)) rfl rfl (by decide +kernel) hb
theorem a199_101 {X : SX} {ls : LS0} {σ : SH} {x : Int32} : exD X 199 101 ls [.int x] σ = some (some (.int x), σ) := g_iret rfl rfl
theorem a199_102 {X : SX} {x : Nat} {t : LS0} {st : List Value} {σ : SH} : exD X 199 102 (some (.ref x) :: t) st σ = exD X 199 103 (some (.ref x) :: t) (.ref x :: st) σ := g_aload_0 rfl
theorem a199_103 {X : SX} {ls : LS0} {st : List Value} {I : Nat → Nat → Int32} {L : Nat → Nat → Int64} {b : Nat} (hb : hk (ms I L) b = some (0, 10)) : exD X 199 103 ls (.ref b :: st) (ms I L) = exD X 199 106 ls (.int (I b 37) :: st) (ms I L) := g_gfI (e := (10, 249, 10, 37)) rfl rfl (by decide +kernel) hb
theorem a199_106 {X : SX} {ls : LS0} {σ : SH} {x : Int32} : exD X 199 106 ls [.int x] σ = some (some (.int x), σ) := g_iret rfl rfl
theorem a199_107 {X : SX} {x : Nat} {t : LS0} {st : List Value} {σ : SH} : exD X 199 107 (some (.ref x) :: t) st σ = exD X 199 108 (some (.ref x) :: t) (.ref x :: st) σ := g_aload_0 rfl
theorem a199_108 {X : SX} {ls : LS0} {st : List Value} {I : Nat → Nat → Int32} {L : Nat → Nat → Int64} {b : Nat} (hb : hk (ms I L) b = some (0, 10)) : exD X 199 108 ls (.ref b :: st) (ms I L) = gR (PP b 4) (fun q => exD X 199 111 ls (.ref q :: st) (ms I L)) := g_gfR (e := (10, 22, 10, 4)) rfl rfl (by decide +kernel) hb
theorem a199_111 {X : SX} {c0 c1 c2 c3 : Option Value} {x : Nat} {t : LS0} {st : List Value} {σ : SH} : exD X 199 111 (c0 :: c1 :: c2 :: c3 :: t) (.ref x :: st) σ = exD X 199 112 (stS 3 (.ref x) (c0 :: c1 :: c2 :: c3 :: t)) st σ := g_astore_3 rfl
theorem a199_112 {X : SX} {c0 c1 c2 : Option Value} {x : Nat} {t : LS0} {st : List Value} {σ : SH} : exD X 199 112 (c0 :: c1 :: c2 :: some (.ref x) :: t) st σ = exD X 199 113 (c0 :: c1 :: c2 :: some (.ref x) :: t) (.ref x :: st) σ := g_aload_3 rfl
theorem a199_113 {X : SX} {ls : LS0} {st : List Value} {I : Nat → Nat → Int32} {L : Nat → Nat → Int64} {b : Nat} (hb : b < 4096) : exD X 199 113 ls (.ref b :: st) (ms I L) = lnR (hk (ms I L) b) (fun n => exD X 199 114 ls (.int (Int32.ofNat n) :: st) (ms I L)) := g_len rfl hb
theorem a199_114 {X : SX} {c0 c1 c2 c3 c4 : Option Value} {x : Int32} {t : LS0} {st : List Value} {σ : SH} : exD X 199 114 (c0 :: c1 :: c2 :: c3 :: c4 :: t) (.int x :: st) σ = exD X 199 116 (stS 4 (.int x) (c0 :: c1 :: c2 :: c3 :: c4 :: t)) st σ := g_istore_4 rfl
theorem a199_116 {X : SX} {ls : LS0} {st : List Value} {σ : SH} : exD X 199 116 ls st σ = exD X 199 117 ls (.int 0 :: st) σ := g_iconst rfl
theorem a199_117 {X : SX} {c0 c1 c2 c3 c4 c5 : Option Value} {x : Int32} {t : LS0} {st : List Value} {σ : SH} : exD X 199 117 (c0 :: c1 :: c2 :: c3 :: c4 :: c5 :: t) (.int x :: st) σ = exD X 199 119 (stS 5 (.int x) (c0 :: c1 :: c2 :: c3 :: c4 :: c5 :: t)) st σ := g_istore_5 rfl
theorem a199_119 {X : SX} {c0 c1 c2 c3 c4 : Option Value} {x : Int32} {t : LS0} {st : List Value} {σ : SH} : exD X 199 119 (c0 :: c1 :: c2 :: c3 :: c4 :: some (.int x) :: t) st σ = exD X 199 121 (c0 :: c1 :: c2 :: c3 :: c4 :: some (.int x) :: t) (.int x :: st) σ := g_iload_5 rfl
theorem a199_121 {X : SX} {c0 c1 c2 c3 : Option Value} {x : Int32} {t : LS0} {st : List Value} {σ : SH} : exD X 199 121 (c0 :: c1 :: c2 :: c3 :: some (.int x) :: t) st σ = exD X 199 123 (c0 :: c1 :: c2 :: c3 :: some (.int x) :: t) (.int x :: st) σ := g_iload_4 rfl
theorem a199_123 {X : SX} {ls : LS0} {st : List Value} {σ : SH} {x y : Int32} : exD X 199 123 ls (.int y :: .int x :: st) σ = if y ≤ x then exD X 199 143 ls st σ else exD X 199 126 ls st σ := g_if_icmp_ge rfl
theorem a199_126 {X : SX} {c0 c1 c2 : Option Value} {x : Nat} {t : LS0} {st : List Value} {σ : SH} : exD X 199 126 (c0 :: c1 :: c2 :: some (.ref x) :: t) st σ = exD X 199 127 (c0 :: c1 :: c2 :: some (.ref x) :: t) (.ref x :: st) σ := g_aload_3 rfl
theorem a199_127 {X : SX} {c0 c1 c2 c3 c4 : Option Value} {x : Int32} {t : LS0} {st : List Value} {σ : SH} : exD X 199 127 (c0 :: c1 :: c2 :: c3 :: c4 :: some (.int x) :: t) st σ = exD X 199 129 (c0 :: c1 :: c2 :: c3 :: c4 :: some (.int x) :: t) (.int x :: st) σ := g_iload_5 rfl
theorem a199_129 {X : SX} {ls : LS0} {st : List Value} {I : Nat → Nat → Int32} {L : Nat → Nat → Int64} {b : Nat} {i : Int32} (hb : b < 4096) : exD X 199 129 ls (.int i :: .ref b :: st) (ms I L) = iaR (hk (ms I L) b) i (exD X 199 130 ls (.int (I b i.toNatClampNeg) :: st) (ms I L)) := g_iald rfl hb
theorem a199_130 {X : SX} {c0 c1 c2 c3 c4 c5 c6 : Option Value} {x : Int32} {t : LS0} {st : List Value} {σ : SH} : exD X 199 130 (c0 :: c1 :: c2 :: c3 :: c4 :: c5 :: c6 :: t) (.int x :: st) σ = exD X 199 132 (stS 6 (.int x) (c0 :: c1 :: c2 :: c3 :: c4 :: c5 :: c6 :: t)) st σ := g_istore_6 rfl
theorem a199_132 {X : SX} {c0 c1 : Option Value} {x : Int32} {t : LS0} {st : List Value} {σ : SH} : exD X 199 132 (c0 :: c1 :: some (.int x) :: t) st σ = exD X 199 133 (c0 :: c1 :: some (.int x) :: t) (.int x :: st) σ := g_iload_2 rfl
theorem a199_133 {X : SX} {c0 c1 c2 c3 c4 c5 : Option Value} {x : Int32} {t : LS0} {st : List Value} {σ : SH} : exD X 199 133 (c0 :: c1 :: c2 :: c3 :: c4 :: c5 :: some (.int x) :: t) st σ = exD X 199 135 (c0 :: c1 :: c2 :: c3 :: c4 :: c5 :: some (.int x) :: t) (.int x :: st) σ := g_iload_6 rfl
theorem a199_135 {X : SX} {ls : LS0} {st : List Value} {σ : SH} {x y : Int32} : exD X 199 135 ls (.int y :: .int x :: st) σ = exD X 199 136 ls (.int (x + y) :: st) σ := g_iadd rfl
theorem a199_136 {X : SX} {c0 c1 c2 : Option Value} {x : Int32} {t : LS0} {st : List Value} {σ : SH} : exD X 199 136 (c0 :: c1 :: c2 :: t) (.int x :: st) σ = exD X 199 137 (stS 2 (.int x) (c0 :: c1 :: c2 :: t)) st σ := g_istore_2 rfl
theorem a199_137 {X : SX} {c0 c1 c2 c3 c4 : Option Value} {x : Int32} {t : LS0} {st : List Value} {σ : SH} : exD X 199 137 (c0 :: c1 :: c2 :: c3 :: c4 :: some (.int x) :: t) st σ = exD X 199 140 (stS 5 (.int (x + 1)) (c0 :: c1 :: c2 :: c3 :: c4 :: some (.int x) :: t)) st σ := g_iinc_5 rfl
theorem a199_140 {X : SX} {ls : LS0} {st : List Value} {σ : SH} : exD X 199 140 ls st σ = exD X 199 119 ls st σ := g_goto rfl
theorem a199_143 {X : SX} {c0 c1 : Option Value} {x : Int32} {t : LS0} {st : List Value} {σ : SH} : exD X 199 143 (c0 :: c1 :: some (.int x) :: t) st σ = exD X 199 144 (c0 :: c1 :: some (.int x) :: t) (.int x :: st) σ := g_iload_2 rfl
theorem a199_144 {X : SX} {ls : LS0} {st : List Value} {σ : SH} : exD X 199 144 ls st σ = exD X 199 145 ls (.int 2 :: st) σ := g_iconst rfl
theorem a199_145 {X : SX} {ls : LS0} {st : List Value} {σ : SH} {x y : Int32} : exD X 199 145 ls (.int y :: .int x :: st) σ = if y = 0 then none else exD X 199 146 ls (.int (x / y) :: st) σ := g_idiv rfl
theorem a199_146 {X : SX} {ls : LS0} {σ : SH} {x : Int32} : exD X 199 146 ls [.int x] σ = some (some (.int x), σ) := g_iret rfl rfl
theorem a199_147 {X : SX} {ls : LS0} {st : List Value} {σ : SH} : exD X 199 147 ls st σ = exD X 199 149 ls (.int (-9) :: st) σ := g_bipush rfl
theorem a199_149 {X : SX} {ls : LS0} {σ : SH} {x : Int32} : exD X 199 149 ls [.int x] σ = some (some (.int x), σ) := g_iret rfl rfl
theorem a200_0 {X : SX} {ls : LS0} {st : List Value} {σ : SH} : exD X 200 0 ls st σ = exD X 200 1 ls (.int 0 :: st) σ := g_iconst rfl
theorem a200_1 {X : SX} {c0 c1 c2 : Option Value} {x : Int32} {t : LS0} {st : List Value} {σ : SH} : exD X 200 1 (c0 :: c1 :: c2 :: t) (.int x :: st) σ = exD X 200 2 (stS 2 (.int x) (c0 :: c1 :: c2 :: t)) st σ := g_istore_2 rfl
theorem a200_2 {X : SX} {x : Nat} {t : LS0} {st : List Value} {σ : SH} : exD X 200 2 (some (.ref x) :: t) st σ = exD X 200 3 (some (.ref x) :: t) (.ref x :: st) σ := g_aload_0 rfl
theorem a200_3 {X : SX} {ls : LS0} {st : List Value} {I : Nat → Nat → Int32} {L : Nat → Nat → Int64} {b : Nat} (hb : b < 4096) : exD X 200 3 ls (.ref b :: st) (ms I L) = lnR (hk (ms I L) b) (fun n => exD X 200 4 ls (.int (Int32.ofNat n) :: st) (ms I L)) := g_len rfl hb
theorem a200_4 {X : SX} {c0 c1 c2 c3 : Option Value} {x : Int32} {t : LS0} {st : List Value} {σ : SH} : exD X 200 4 (c0 :: c1 :: c2 :: c3 :: t) (.int x :: st) σ = exD X 200 5 (stS 3 (.int x) (c0 :: c1 :: c2 :: c3 :: t)) st σ := g_istore_3 rfl
theorem a200_5 {X : SX} {c0 c1 : Option Value} {x : Int32} {t : LS0} {st : List Value} {σ : SH} : exD X 200 5 (c0 :: c1 :: some (.int x) :: t) st σ = exD X 200 6 (c0 :: c1 :: some (.int x) :: t) (.int x :: st) σ := g_iload_2 rfl
theorem a200_6 {X : SX} {c0 c1 c2 : Option Value} {x : Int32} {t : LS0} {st : List Value} {σ : SH} : exD X 200 6 (c0 :: c1 :: c2 :: some (.int x) :: t) st σ = exD X 200 7 (c0 :: c1 :: c2 :: some (.int x) :: t) (.int x :: st) σ := g_iload_3 rfl
theorem a200_7 {X : SX} {ls : LS0} {st : List Value} {σ : SH} {x y : Int32} : exD X 200 7 ls (.int y :: .int x :: st) σ = if y ≤ x then exD X 200 20 ls st σ else exD X 200 10 ls st σ := g_if_icmp_ge rfl
theorem a200_10 {X : SX} {x : Nat} {t : LS0} {st : List Value} {σ : SH} : exD X 200 10 (some (.ref x) :: t) st σ = exD X 200 11 (some (.ref x) :: t) (.ref x :: st) σ := g_aload_0 rfl
theorem a200_11 {X : SX} {c0 c1 : Option Value} {x : Int32} {t : LS0} {st : List Value} {σ : SH} : exD X 200 11 (c0 :: c1 :: some (.int x) :: t) st σ = exD X 200 12 (c0 :: c1 :: some (.int x) :: t) (.int x :: st) σ := g_iload_2 rfl
theorem a200_12 {X : SX} {c0 : Option Value} {x : Int32} {t : LS0} {st : List Value} {σ : SH} : exD X 200 12 (c0 :: some (.int x) :: t) st σ = exD X 200 13 (c0 :: some (.int x) :: t) (.int x :: st) σ := g_iload_1 rfl
theorem a200_13 {X : SX} {ls : LS0} {st : List Value} {I : Nat → Nat → Int32} {L : Nat → Nat → Int64} {b : Nat} {i x : Int32} : exD X 200 13 ls (.int x :: .int i :: .ref b :: st) (ms I L) = iaR (hk (ms I L) b) i (exD X 200 14 ls st (ms (u2 I b i.toNatClampNeg x) L)) := g_iast rfl
theorem a200_14 {X : SX} {c0 c1 : Option Value} {x : Int32} {t : LS0} {st : List Value} {σ : SH} : exD X 200 14 (c0 :: c1 :: some (.int x) :: t) st σ = exD X 200 17 (stS 2 (.int (x + 1)) (c0 :: c1 :: some (.int x) :: t)) st σ := g_iinc_2 rfl
theorem a200_17 {X : SX} {ls : LS0} {st : List Value} {σ : SH} : exD X 200 17 ls st σ = exD X 200 5 ls st σ := g_goto rfl
theorem a200_20 {X : SX} {ls : LS0} {σ : SH} : exD X 200 20 ls [] σ = some (none, σ) := g_vret rfl rfl
theorem a201_3 {X : SX} {ls : LS0} {st : List Value} {σ : SH} {x : Int32} : exD X 201 3 ls (.int x :: st) σ = exD X 201 4 ls (.int x :: .int x :: st) σ := g_dup_i rfl
theorem a201_3r {X : SX} {ls : LS0} {st : List Value} {σ : SH} {x : Nat} : exD X 201 3 ls (.ref x :: st) σ = exD X 201 4 ls (.ref x :: .ref x :: st) σ := g_dup_r rfl
theorem a201_7 {X : SX} {c0 c1 : Option Value} {x : Nat} {t : LS0} {st : List Value} {σ : SH} : exD X 201 7 (c0 :: c1 :: t) (.ref x :: st) σ = exD X 201 8 (stS 1 (.ref x) (c0 :: c1 :: t)) st σ := g_astore_1 rfl
theorem a201_11 {X : SX} {ls : LS0} {st : List Value} {σ : SH} {x : Int32} : exD X 201 11 ls (.int x :: st) σ = exD X 201 12 ls (.int x :: .int x :: st) σ := g_dup_i rfl
theorem a201_11r {X : SX} {ls : LS0} {st : List Value} {σ : SH} {x : Nat} : exD X 201 11 ls (.ref x :: st) σ = exD X 201 12 ls (.ref x :: .ref x :: st) σ := g_dup_r rfl
theorem a201_15 {X : SX} {c0 c1 c2 : Option Value} {x : Nat} {t : LS0} {st : List Value} {σ : SH} : exD X 201 15 (c0 :: c1 :: c2 :: t) (.ref x :: st) σ = exD X 201 16 (stS 2 (.ref x) (c0 :: c1 :: c2 :: t)) st σ := g_astore_2 rfl
theorem a201_16 {X : SX} {ls : LS0} {st : List Value} {σ : SH} : exD X 201 16 ls st σ = exD X 201 17 ls (.int 0 :: st) σ := g_iconst rfl
theorem a201_17 {X : SX} {c0 c1 c2 c3 : Option Value} {x : Int32} {t : LS0} {st : List Value} {σ : SH} : exD X 201 17 (c0 :: c1 :: c2 :: c3 :: t) (.int x :: st) σ = exD X 201 18 (stS 3 (.int x) (c0 :: c1 :: c2 :: c3 :: t)) st σ := g_istore_3 rfl
theorem a201_18 {X : SX} {c0 c1 c2 : Option Value} {x : Int32} {t : LS0} {st : List Value} {σ : SH} : exD X 201 18 (c0 :: c1 :: c2 :: some (.int x) :: t) st σ = exD X 201 19 (c0 :: c1 :: c2 :: some (.int x) :: t) (.int x :: st) σ := g_iload_3 rfl
theorem a201_19 {X : SX} {x : Nat} {t : LS0} {st : List Value} {σ : SH} : exD X 201 19 (some (.ref x) :: t) st σ = exD X 201 20 (some (.ref x) :: t) (.ref x :: st) σ := g_aload_0 rfl
theorem a201_20 {X : SX} {ls : LS0} {st : List Value} {I : Nat → Nat → Int32} {L : Nat → Nat → Int64} {b : Nat} (hb : b < 4096) : exD X 201 20 ls (.ref b :: st) (ms I L) = lnR (hk (ms I L) b) (fun n => exD X 201 21 ls (.int (Int32.ofNat n) :: st) (ms I L)) := g_len rfl hb
theorem a201_21 {X : SX} {ls : LS0} {st : List Value} {σ : SH} : exD X 201 21 ls st σ = exD X 201 22 ls (.int 5 :: st) σ := g_iconst rfl
theorem a201_22 {X : SX} {ls : LS0} {st : List Value} {σ : SH} {x y : Int32} : exD X 201 22 ls (.int y :: .int x :: st) σ = exD X 201 23 ls (.int (x - y) :: st) σ := g_isub rfl
theorem a201_23 {X : SX} {ls : LS0} {st : List Value} {σ : SH} {x y : Int32} : exD X 201 23 ls (.int y :: .int x :: st) σ = if y < x then exD X 201 1257 ls st σ else exD X 201 26 ls st σ := g_if_icmp_gt rfl
theorem a201_26 {X : SX} {x : Nat} {t : LS0} {st : List Value} {σ : SH} : exD X 201 26 (some (.ref x) :: t) st σ = exD X 201 27 (some (.ref x) :: t) (.ref x :: st) σ := g_aload_0 rfl
theorem a201_27 {X : SX} {c0 c1 c2 : Option Value} {x : Int32} {t : LS0} {st : List Value} {σ : SH} : exD X 201 27 (c0 :: c1 :: c2 :: some (.int x) :: t) st σ = exD X 201 28 (c0 :: c1 :: c2 :: some (.int x) :: t) (.int x :: st) σ := g_iload_3 rfl
theorem a201_28 {X : SX} {ls : LS0} {st : List Value} {I : Nat → Nat → Int32} {L : Nat → Nat → Int64} {b : Nat} {i : Int32} (hb : b < 4096) : exD X 201 28 ls (.int i :: .ref b :: st) (ms I L) = iaR (hk (ms I L) b) i (exD X 201 29 ls (.int (I b i.toNatClampNeg) :: st) (ms I L)) := g_iald rfl hb
theorem a201_29 {X : SX} {ls : LS0} {st : List Value} {σ : SH} : exD X 201 29 ls st σ = exD X 201 31 ls (.int 63 :: st) σ := g_bipush rfl
theorem a201_31 {X : SX} {ls : LS0} {st : List Value} {σ : SH} {x y : Int32} : exD X 201 31 ls (.int y :: .int x :: st) σ = exD X 201 32 ls (.int (x &&& y) :: st) σ := g_iand rfl
theorem a201_32 {X : SX} {ls : LS0} {st : List Value} {σ : SH} {x : Int32} : exD X 201 32 ls (.int x :: st) σ = swE X 201 1251 x ls st σ [(0, 188), (1, 211), (2, 224), (3, 257), (4, 300), (5, 333), (6, 366), (7, 399), (8, 432), (9, 491), (10, 514), (11, 547), (12, 570), (13, 603), (14, 636), (15, 669), (16, 682), (17, 695), (18, 738), (19, 781), (20, 814), (21, 847), (22, 870), (23, 883), (24, 906), (25, 939), (26, 962), (27, 1005), (28, 1059), (29, 1103), (30, 1136), (31, 1169), (32, 1202), (33, 1215), (34, 1228)] := g_tableswitch rfl
theorem a201_188 {X : SX} {c0 : Option Value} {x : Nat} {t : LS0} {st : List Value} {σ : SH} : exD X 201 188 (c0 :: some (.ref x) :: t) st σ = exD X 201 189 (c0 :: some (.ref x) :: t) (.ref x :: st) σ := g_aload_1 rfl
theorem a201_189 {X : SX} {x : Nat} {t : LS0} {st : List Value} {σ : SH} : exD X 201 189 (some (.ref x) :: t) st σ = exD X 201 190 (some (.ref x) :: t) (.ref x :: st) σ := g_aload_0 rfl
theorem a201_190 {X : SX} {c0 c1 c2 : Option Value} {x : Int32} {t : LS0} {st : List Value} {σ : SH} : exD X 201 190 (c0 :: c1 :: c2 :: some (.int x) :: t) st σ = exD X 201 191 (c0 :: c1 :: c2 :: some (.int x) :: t) (.int x :: st) σ := g_iload_3 rfl
theorem a201_191 {X : SX} {ls : LS0} {st : List Value} {σ : SH} : exD X 201 191 ls st σ = exD X 201 192 ls (.int 1 :: st) σ := g_iconst rfl
theorem a201_192 {X : SX} {ls : LS0} {st : List Value} {σ : SH} {x y : Int32} : exD X 201 192 ls (.int y :: .int x :: st) σ = exD X 201 193 ls (.int (x + y) :: st) σ := g_iadd rfl
theorem a201_193 {X : SX} {ls : LS0} {st : List Value} {I : Nat → Nat → Int32} {L : Nat → Nat → Int64} {b : Nat} {i : Int32} (hb : b < 4096) : exD X 201 193 ls (.int i :: .ref b :: st) (ms I L) = iaR (hk (ms I L) b) i (exD X 201 194 ls (.int (I b i.toNatClampNeg) :: st) (ms I L)) := g_iald rfl hb
theorem a201_194 {X : SX} {ls : LS0} {st : List Value} {I : Nat → Nat → Int32} {L : Nat → Nat → Int64} {w0 : Int32} {b : Nat} (hb : hk (ms I L) b = some (0, 9)) (h8 : cS st ≤ 8) : exD X 201 194 ls (.int w0 :: .ref b :: st) (ms I L) = cR (caD X 74 [.ref b, .int w0] (ms I L)) (fun w s => exD X 201 197 ls (psh w st) s) := g_cv rfl rfl rfl (Nat.le_of_ble_eq_true rfl) h8 hb
theorem a201_197 {X : SX} {c0 c1 : Option Value} {x : Nat} {t : LS0} {st : List Value} {σ : SH} : exD X 201 197 (c0 :: c1 :: some (.ref x) :: t) st σ = exD X 201 198 (c0 :: c1 :: some (.ref x) :: t) (.ref x :: st) σ := g_aload_2 rfl
theorem a201_198 {X : SX} {x : Nat} {t : LS0} {st : List Value} {σ : SH} : exD X 201 198 (some (.ref x) :: t) st σ = exD X 201 199 (some (.ref x) :: t) (.ref x :: st) σ := g_aload_0 rfl
theorem a201_199 {X : SX} {c0 c1 c2 : Option Value} {x : Int32} {t : LS0} {st : List Value} {σ : SH} : exD X 201 199 (c0 :: c1 :: c2 :: some (.int x) :: t) st σ = exD X 201 200 (c0 :: c1 :: c2 :: some (.int x) :: t) (.int x :: st) σ := g_iload_3 rfl
theorem a201_200 {X : SX} {ls : LS0} {st : List Value} {σ : SH} : exD X 201 200 ls st σ = exD X 201 201 ls (.int 1 :: st) σ := g_iconst rfl
theorem a201_201 {X : SX} {ls : LS0} {st : List Value} {σ : SH} {x y : Int32} : exD X 201 201 ls (.int y :: .int x :: st) σ = exD X 201 202 ls (.int (x + y) :: st) σ := g_iadd rfl
theorem a201_202 {X : SX} {ls : LS0} {st : List Value} {I : Nat → Nat → Int32} {L : Nat → Nat → Int64} {b : Nat} {i : Int32} (hb : b < 4096) : exD X 201 202 ls (.int i :: .ref b :: st) (ms I L) = iaR (hk (ms I L) b) i (exD X 201 203 ls (.int (I b i.toNatClampNeg) :: st) (ms I L)) := g_iald rfl hb
theorem a201_203 {X : SX} {ls : LS0} {st : List Value} {I : Nat → Nat → Int32} {L : Nat → Nat → Int64} {w0 : Int32} {b : Nat} (hb : hk (ms I L) b = some (0, 10)) (h8 : cS st ≤ 8) : exD X 201 203 ls (.int w0 :: .ref b :: st) (ms I L) = cR (caD X 130 [.ref b, .int w0] (ms I L)) (fun w s => exD X 201 206 ls (psh w st) s) := g_cv rfl rfl rfl (Nat.le_of_ble_eq_true rfl) h8 hb
theorem a201_206 {X : SX} {ls : LS0} {st : List Value} {σ : SH} {x y : Int32} : exD X 201 206 ls (.int y :: .int x :: st) σ = if x = y then exD X 201 1251 ls st σ else exD X 201 209 ls st σ := g_if_icmp_eq rfl
theorem a201_209 {X : SX} {ls : LS0} {st : List Value} {σ : SH} : exD X 201 209 ls st σ = exD X 201 210 ls (.int 0 :: st) σ := g_iconst rfl
theorem a201_210 {X : SX} {ls : LS0} {σ : SH} {x : Int32} : exD X 201 210 ls [.int x] σ = if x = 0 ∨ x = 1 then some (some (.int x), σ) else none := g_zret rfl rfl
theorem a201_211 {X : SX} {c0 : Option Value} {x : Nat} {t : LS0} {st : List Value} {σ : SH} : exD X 201 211 (c0 :: some (.ref x) :: t) st σ = exD X 201 212 (c0 :: some (.ref x) :: t) (.ref x :: st) σ := g_aload_1 rfl
theorem a201_212 {X : SX} {ls : LS0} {st : List Value} {I : Nat → Nat → Int32} {L : Nat → Nat → Int64} {b : Nat} (hb : hk (ms I L) b = some (0, 9)) (h8 : cS st ≤ 8) : exD X 201 212 ls (.ref b :: st) (ms I L) = cR (caD X 75 [.ref b] (ms I L)) (fun w s => exD X 201 215 ls (psh w st) s) := g_cv rfl rfl rfl (Nat.le_of_ble_eq_true rfl) h8 hb
theorem a201_215 {X : SX} {c0 c1 : Option Value} {x : Nat} {t : LS0} {st : List Value} {σ : SH} : exD X 201 215 (c0 :: c1 :: some (.ref x) :: t) st σ = exD X 201 216 (c0 :: c1 :: some (.ref x) :: t) (.ref x :: st) σ := g_aload_2 rfl
theorem a201_216 {X : SX} {ls : LS0} {st : List Value} {I : Nat → Nat → Int32} {L : Nat → Nat → Int64} {b : Nat} (hb : hk (ms I L) b = some (0, 10)) (h8 : cS st ≤ 8) : exD X 201 216 ls (.ref b :: st) (ms I L) = cR (caD X 141 [.ref b] (ms I L)) (fun w s => exD X 201 219 ls (psh w st) s) := g_cv rfl rfl rfl (Nat.le_of_ble_eq_true rfl) h8 hb
theorem a201_219 {X : SX} {ls : LS0} {st : List Value} {σ : SH} {x y : Int32} : exD X 201 219 ls (.int y :: .int x :: st) σ = if x = y then exD X 201 1251 ls st σ else exD X 201 222 ls st σ := g_if_icmp_eq rfl
theorem a201_222 {X : SX} {ls : LS0} {st : List Value} {σ : SH} : exD X 201 222 ls st σ = exD X 201 223 ls (.int 0 :: st) σ := g_iconst rfl
theorem a201_223 {X : SX} {ls : LS0} {σ : SH} {x : Int32} : exD X 201 223 ls [.int x] σ = if x = 0 ∨ x = 1 then some (some (.int x), σ) else none := g_zret rfl rfl
theorem a201_224 {X : SX} {c0 : Option Value} {x : Nat} {t : LS0} {st : List Value} {σ : SH} : exD X 201 224 (c0 :: some (.ref x) :: t) st σ = exD X 201 225 (c0 :: some (.ref x) :: t) (.ref x :: st) σ := g_aload_1 rfl
theorem a201_225 {X : SX} {x : Nat} {t : LS0} {st : List Value} {σ : SH} : exD X 201 225 (some (.ref x) :: t) st σ = exD X 201 226 (some (.ref x) :: t) (.ref x :: st) σ := g_aload_0 rfl
theorem a201_226 {X : SX} {c0 c1 c2 : Option Value} {x : Int32} {t : LS0} {st : List Value} {σ : SH} : exD X 201 226 (c0 :: c1 :: c2 :: some (.int x) :: t) st σ = exD X 201 227 (c0 :: c1 :: c2 :: some (.int x) :: t) (.int x :: st) σ := g_iload_3 rfl
theorem a201_227 {X : SX} {ls : LS0} {st : List Value} {σ : SH} : exD X 201 227 ls st σ = exD X 201 228 ls (.int 1 :: st) σ := g_iconst rfl
theorem a201_228 {X : SX} {ls : LS0} {st : List Value} {σ : SH} {x y : Int32} : exD X 201 228 ls (.int y :: .int x :: st) σ = exD X 201 229 ls (.int (x + y) :: st) σ := g_iadd rfl
theorem a201_229 {X : SX} {ls : LS0} {st : List Value} {I : Nat → Nat → Int32} {L : Nat → Nat → Int64} {b : Nat} {i : Int32} (hb : b < 4096) : exD X 201 229 ls (.int i :: .ref b :: st) (ms I L) = iaR (hk (ms I L) b) i (exD X 201 230 ls (.int (I b i.toNatClampNeg) :: st) (ms I L)) := g_iald rfl hb
theorem a201_230 {X : SX} {x : Nat} {t : LS0} {st : List Value} {σ : SH} : exD X 201 230 (some (.ref x) :: t) st σ = exD X 201 231 (some (.ref x) :: t) (.ref x :: st) σ := g_aload_0 rfl
theorem a201_231 {X : SX} {c0 c1 c2 : Option Value} {x : Int32} {t : LS0} {st : List Value} {σ : SH} : exD X 201 231 (c0 :: c1 :: c2 :: some (.int x) :: t) st σ = exD X 201 232 (c0 :: c1 :: c2 :: some (.int x) :: t) (.int x :: st) σ := g_iload_3 rfl
theorem a201_232 {X : SX} {ls : LS0} {st : List Value} {σ : SH} : exD X 201 232 ls st σ = exD X 201 233 ls (.int 2 :: st) σ := g_iconst rfl
theorem a201_233 {X : SX} {ls : LS0} {st : List Value} {σ : SH} {x y : Int32} : exD X 201 233 ls (.int y :: .int x :: st) σ = exD X 201 234 ls (.int (x + y) :: st) σ := g_iadd rfl
theorem a201_234 {X : SX} {ls : LS0} {st : List Value} {I : Nat → Nat → Int32} {L : Nat → Nat → Int64} {b : Nat} {i : Int32} (hb : b < 4096) : exD X 201 234 ls (.int i :: .ref b :: st) (ms I L) = iaR (hk (ms I L) b) i (exD X 201 235 ls (.int (I b i.toNatClampNeg) :: st) (ms I L)) := g_iald rfl hb
theorem a201_235 {X : SX} {ls : LS0} {st : List Value} {I : Nat → Nat → Int32} {L : Nat → Nat → Int64} {w0 : Int32} {w1 : Int32} {b : Nat} (hb : hk (ms I L) b = some (0, 9)) (h8 : cS st ≤ 8) : exD X 201 235 ls (.int w1 :: .int w0 :: .ref b :: st) (ms I L) = cR (caD X 76 [.ref b, .int w0, .int w1] (ms I L)) (fun w s => exD X 201 238 ls (psh w st) s) := g_cv rfl rfl rfl (Nat.le_of_ble_eq_true rfl) h8 hb
theorem a201_238 {X : SX} {c0 c1 : Option Value} {x : Nat} {t : LS0} {st : List Value} {σ : SH} : exD X 201 238 (c0 :: c1 :: some (.ref x) :: t) st σ = exD X 201 239 (c0 :: c1 :: some (.ref x) :: t) (.ref x :: st) σ := g_aload_2 rfl
theorem a201_239 {X : SX} {x : Nat} {t : LS0} {st : List Value} {σ : SH} : exD X 201 239 (some (.ref x) :: t) st σ = exD X 201 240 (some (.ref x) :: t) (.ref x :: st) σ := g_aload_0 rfl
theorem a201_240 {X : SX} {c0 c1 c2 : Option Value} {x : Int32} {t : LS0} {st : List Value} {σ : SH} : exD X 201 240 (c0 :: c1 :: c2 :: some (.int x) :: t) st σ = exD X 201 241 (c0 :: c1 :: c2 :: some (.int x) :: t) (.int x :: st) σ := g_iload_3 rfl
theorem a201_241 {X : SX} {ls : LS0} {st : List Value} {σ : SH} : exD X 201 241 ls st σ = exD X 201 242 ls (.int 1 :: st) σ := g_iconst rfl
theorem a201_242 {X : SX} {ls : LS0} {st : List Value} {σ : SH} {x y : Int32} : exD X 201 242 ls (.int y :: .int x :: st) σ = exD X 201 243 ls (.int (x + y) :: st) σ := g_iadd rfl
theorem a201_243 {X : SX} {ls : LS0} {st : List Value} {I : Nat → Nat → Int32} {L : Nat → Nat → Int64} {b : Nat} {i : Int32} (hb : b < 4096) : exD X 201 243 ls (.int i :: .ref b :: st) (ms I L) = iaR (hk (ms I L) b) i (exD X 201 244 ls (.int (I b i.toNatClampNeg) :: st) (ms I L)) := g_iald rfl hb
theorem a201_244 {X : SX} {x : Nat} {t : LS0} {st : List Value} {σ : SH} : exD X 201 244 (some (.ref x) :: t) st σ = exD X 201 245 (some (.ref x) :: t) (.ref x :: st) σ := g_aload_0 rfl
theorem a201_245 {X : SX} {c0 c1 c2 : Option Value} {x : Int32} {t : LS0} {st : List Value} {σ : SH} : exD X 201 245 (c0 :: c1 :: c2 :: some (.int x) :: t) st σ = exD X 201 246 (c0 :: c1 :: c2 :: some (.int x) :: t) (.int x :: st) σ := g_iload_3 rfl
theorem a201_246 {X : SX} {ls : LS0} {st : List Value} {σ : SH} : exD X 201 246 ls st σ = exD X 201 247 ls (.int 2 :: st) σ := g_iconst rfl
theorem a201_247 {X : SX} {ls : LS0} {st : List Value} {σ : SH} {x y : Int32} : exD X 201 247 ls (.int y :: .int x :: st) σ = exD X 201 248 ls (.int (x + y) :: st) σ := g_iadd rfl
theorem a201_248 {X : SX} {ls : LS0} {st : List Value} {I : Nat → Nat → Int32} {L : Nat → Nat → Int64} {b : Nat} {i : Int32} (hb : b < 4096) : exD X 201 248 ls (.int i :: .ref b :: st) (ms I L) = iaR (hk (ms I L) b) i (exD X 201 249 ls (.int (I b i.toNatClampNeg) :: st) (ms I L)) := g_iald rfl hb
theorem a201_249 {X : SX} {ls : LS0} {st : List Value} {I : Nat → Nat → Int32} {L : Nat → Nat → Int64} {w0 : Int32} {w1 : Int32} {b : Nat} (hb : hk (ms I L) b = some (0, 10)) (h8 : cS st ≤ 8) : exD X 201 249 ls (.int w1 :: .int w0 :: .ref b :: st) (ms I L) = cR (caD X 151 [.ref b, .int w0, .int w1] (ms I L)) (fun w s => exD X 201 252 ls (psh w st) s) := g_cv rfl rfl rfl (Nat.le_of_ble_eq_true rfl) h8 hb
theorem a201_252 {X : SX} {ls : LS0} {st : List Value} {σ : SH} {x y : Int32} : exD X 201 252 ls (.int y :: .int x :: st) σ = if x = y then exD X 201 1251 ls st σ else exD X 201 255 ls st σ := g_if_icmp_eq rfl
theorem a201_255 {X : SX} {ls : LS0} {st : List Value} {σ : SH} : exD X 201 255 ls st σ = exD X 201 256 ls (.int 0 :: st) σ := g_iconst rfl
theorem a201_256 {X : SX} {ls : LS0} {σ : SH} {x : Int32} : exD X 201 256 ls [.int x] σ = if x = 0 ∨ x = 1 then some (some (.int x), σ) else none := g_zret rfl rfl
theorem a201_257 {X : SX} {c0 : Option Value} {x : Nat} {t : LS0} {st : List Value} {σ : SH} : exD X 201 257 (c0 :: some (.ref x) :: t) st σ = exD X 201 258 (c0 :: some (.ref x) :: t) (.ref x :: st) σ := g_aload_1 rfl
theorem a201_258 {X : SX} {x : Nat} {t : LS0} {st : List Value} {σ : SH} : exD X 201 258 (some (.ref x) :: t) st σ = exD X 201 259 (some (.ref x) :: t) (.ref x :: st) σ := g_aload_0 rfl
theorem a201_259 {X : SX} {c0 c1 c2 : Option Value} {x : Int32} {t : LS0} {st : List Value} {σ : SH} : exD X 201 259 (c0 :: c1 :: c2 :: some (.int x) :: t) st σ = exD X 201 260 (c0 :: c1 :: c2 :: some (.int x) :: t) (.int x :: st) σ := g_iload_3 rfl
theorem a201_260 {X : SX} {ls : LS0} {st : List Value} {σ : SH} : exD X 201 260 ls st σ = exD X 201 261 ls (.int 1 :: st) σ := g_iconst rfl
theorem a201_261 {X : SX} {ls : LS0} {st : List Value} {σ : SH} {x y : Int32} : exD X 201 261 ls (.int y :: .int x :: st) σ = exD X 201 262 ls (.int (x + y) :: st) σ := g_iadd rfl
theorem a201_262 {X : SX} {ls : LS0} {st : List Value} {I : Nat → Nat → Int32} {L : Nat → Nat → Int64} {b : Nat} {i : Int32} (hb : b < 4096) : exD X 201 262 ls (.int i :: .ref b :: st) (ms I L) = iaR (hk (ms I L) b) i (exD X 201 263 ls (.int (I b i.toNatClampNeg) :: st) (ms I L)) := g_iald rfl hb
theorem a201_263 {X : SX} {x : Nat} {t : LS0} {st : List Value} {σ : SH} : exD X 201 263 (some (.ref x) :: t) st σ = exD X 201 264 (some (.ref x) :: t) (.ref x :: st) σ := g_aload_0 rfl
theorem a201_264 {X : SX} {c0 c1 c2 : Option Value} {x : Int32} {t : LS0} {st : List Value} {σ : SH} : exD X 201 264 (c0 :: c1 :: c2 :: some (.int x) :: t) st σ = exD X 201 265 (c0 :: c1 :: c2 :: some (.int x) :: t) (.int x :: st) σ := g_iload_3 rfl
theorem a201_265 {X : SX} {ls : LS0} {st : List Value} {σ : SH} : exD X 201 265 ls st σ = exD X 201 266 ls (.int 2 :: st) σ := g_iconst rfl
theorem a201_266 {X : SX} {ls : LS0} {st : List Value} {σ : SH} {x y : Int32} : exD X 201 266 ls (.int y :: .int x :: st) σ = exD X 201 267 ls (.int (x + y) :: st) σ := g_iadd rfl
theorem a201_267 {X : SX} {ls : LS0} {st : List Value} {I : Nat → Nat → Int32} {L : Nat → Nat → Int64} {b : Nat} {i : Int32} (hb : b < 4096) : exD X 201 267 ls (.int i :: .ref b :: st) (ms I L) = iaR (hk (ms I L) b) i (exD X 201 268 ls (.int (I b i.toNatClampNeg) :: st) (ms I L)) := g_iald rfl hb
theorem a201_268 {X : SX} {x : Nat} {t : LS0} {st : List Value} {σ : SH} : exD X 201 268 (some (.ref x) :: t) st σ = exD X 201 269 (some (.ref x) :: t) (.ref x :: st) σ := g_aload_0 rfl
theorem a201_269 {X : SX} {c0 c1 c2 : Option Value} {x : Int32} {t : LS0} {st : List Value} {σ : SH} : exD X 201 269 (c0 :: c1 :: c2 :: some (.int x) :: t) st σ = exD X 201 270 (c0 :: c1 :: c2 :: some (.int x) :: t) (.int x :: st) σ := g_iload_3 rfl
theorem a201_270 {X : SX} {ls : LS0} {st : List Value} {σ : SH} : exD X 201 270 ls st σ = exD X 201 271 ls (.int 3 :: st) σ := g_iconst rfl
theorem a201_271 {X : SX} {ls : LS0} {st : List Value} {σ : SH} {x y : Int32} : exD X 201 271 ls (.int y :: .int x :: st) σ = exD X 201 272 ls (.int (x + y) :: st) σ := g_iadd rfl
theorem a201_272 {X : SX} {ls : LS0} {st : List Value} {I : Nat → Nat → Int32} {L : Nat → Nat → Int64} {b : Nat} {i : Int32} (hb : b < 4096) : exD X 201 272 ls (.int i :: .ref b :: st) (ms I L) = iaR (hk (ms I L) b) i (exD X 201 273 ls (.int (I b i.toNatClampNeg) :: st) (ms I L)) := g_iald rfl hb
theorem a201_273 {X : SX} {ls : LS0} {st : List Value} {I : Nat → Nat → Int32} {L : Nat → Nat → Int64} {w0 : Int32} {w1 : Int32} {w2 : Int32} {b : Nat} (hb : hk (ms I L) b = some (0, 9)) (h8 : cS st ≤ 8) : exD X 201 273 ls (.int w2 :: .int w1 :: .int w0 :: .ref b :: st) (ms I L) = cR (caD X 77 [.ref b, .int w0, .int w1, .int w2] (ms I L)) (fun w s => exD X 201 276 ls (psh w st) s) := g_cv rfl rfl rfl (Nat.le_of_ble_eq_true rfl) h8 hb
theorem a201_276 {X : SX} {c0 c1 : Option Value} {x : Nat} {t : LS0} {st : List Value} {σ : SH} : exD X 201 276 (c0 :: c1 :: some (.ref x) :: t) st σ = exD X 201 277 (c0 :: c1 :: some (.ref x) :: t) (.ref x :: st) σ := g_aload_2 rfl
theorem a201_277 {X : SX} {x : Nat} {t : LS0} {st : List Value} {σ : SH} : exD X 201 277 (some (.ref x) :: t) st σ = exD X 201 278 (some (.ref x) :: t) (.ref x :: st) σ := g_aload_0 rfl
theorem a201_278 {X : SX} {c0 c1 c2 : Option Value} {x : Int32} {t : LS0} {st : List Value} {σ : SH} : exD X 201 278 (c0 :: c1 :: c2 :: some (.int x) :: t) st σ = exD X 201 279 (c0 :: c1 :: c2 :: some (.int x) :: t) (.int x :: st) σ := g_iload_3 rfl
theorem a201_279 {X : SX} {ls : LS0} {st : List Value} {σ : SH} : exD X 201 279 ls st σ = exD X 201 280 ls (.int 1 :: st) σ := g_iconst rfl
theorem a201_280 {X : SX} {ls : LS0} {st : List Value} {σ : SH} {x y : Int32} : exD X 201 280 ls (.int y :: .int x :: st) σ = exD X 201 281 ls (.int (x + y) :: st) σ := g_iadd rfl
theorem a201_281 {X : SX} {ls : LS0} {st : List Value} {I : Nat → Nat → Int32} {L : Nat → Nat → Int64} {b : Nat} {i : Int32} (hb : b < 4096) : exD X 201 281 ls (.int i :: .ref b :: st) (ms I L) = iaR (hk (ms I L) b) i (exD X 201 282 ls (.int (I b i.toNatClampNeg) :: st) (ms I L)) := g_iald rfl hb
theorem a201_282 {X : SX} {x : Nat} {t : LS0} {st : List Value} {σ : SH} : exD X 201 282 (some (.ref x) :: t) st σ = exD X 201 283 (some (.ref x) :: t) (.ref x :: st) σ := g_aload_0 rfl
theorem a201_283 {X : SX} {c0 c1 c2 : Option Value} {x : Int32} {t : LS0} {st : List Value} {σ : SH} : exD X 201 283 (c0 :: c1 :: c2 :: some (.int x) :: t) st σ = exD X 201 284 (c0 :: c1 :: c2 :: some (.int x) :: t) (.int x :: st) σ := g_iload_3 rfl
theorem a201_284 {X : SX} {ls : LS0} {st : List Value} {σ : SH} : exD X 201 284 ls st σ = exD X 201 285 ls (.int 2 :: st) σ := g_iconst rfl
theorem a201_285 {X : SX} {ls : LS0} {st : List Value} {σ : SH} {x y : Int32} : exD X 201 285 ls (.int y :: .int x :: st) σ = exD X 201 286 ls (.int (x + y) :: st) σ := g_iadd rfl
theorem a201_286 {X : SX} {ls : LS0} {st : List Value} {I : Nat → Nat → Int32} {L : Nat → Nat → Int64} {b : Nat} {i : Int32} (hb : b < 4096) : exD X 201 286 ls (.int i :: .ref b :: st) (ms I L) = iaR (hk (ms I L) b) i (exD X 201 287 ls (.int (I b i.toNatClampNeg) :: st) (ms I L)) := g_iald rfl hb
theorem a201_287 {X : SX} {x : Nat} {t : LS0} {st : List Value} {σ : SH} : exD X 201 287 (some (.ref x) :: t) st σ = exD X 201 288 (some (.ref x) :: t) (.ref x :: st) σ := g_aload_0 rfl
theorem a201_288 {X : SX} {c0 c1 c2 : Option Value} {x : Int32} {t : LS0} {st : List Value} {σ : SH} : exD X 201 288 (c0 :: c1 :: c2 :: some (.int x) :: t) st σ = exD X 201 289 (c0 :: c1 :: c2 :: some (.int x) :: t) (.int x :: st) σ := g_iload_3 rfl
theorem a201_289 {X : SX} {ls : LS0} {st : List Value} {σ : SH} : exD X 201 289 ls st σ = exD X 201 290 ls (.int 3 :: st) σ := g_iconst rfl
theorem a201_290 {X : SX} {ls : LS0} {st : List Value} {σ : SH} {x y : Int32} : exD X 201 290 ls (.int y :: .int x :: st) σ = exD X 201 291 ls (.int (x + y) :: st) σ := g_iadd rfl
theorem a201_291 {X : SX} {ls : LS0} {st : List Value} {I : Nat → Nat → Int32} {L : Nat → Nat → Int64} {b : Nat} {i : Int32} (hb : b < 4096) : exD X 201 291 ls (.int i :: .ref b :: st) (ms I L) = iaR (hk (ms I L) b) i (exD X 201 292 ls (.int (I b i.toNatClampNeg) :: st) (ms I L)) := g_iald rfl hb
theorem a201_292 {X : SX} {ls : LS0} {st : List Value} {I : Nat → Nat → Int32} {L : Nat → Nat → Int64} {w0 : Int32} {w1 : Int32} {w2 : Int32} {b : Nat} (hb : hk (ms I L) b = some (0, 10)) (h8 : cS st ≤ 8) : exD X 201 292 ls (.int w2 :: .int w1 :: .int w0 :: .ref b :: st) (ms I L) = cR (caD X 152 [.ref b, .int w0, .int w1, .int w2] (ms I L)) (fun w s => exD X 201 295 ls (psh w st) s) := g_cv rfl rfl rfl (Nat.le_of_ble_eq_true rfl) h8 hb
theorem a201_295 {X : SX} {ls : LS0} {st : List Value} {σ : SH} {x y : Int32} : exD X 201 295 ls (.int y :: .int x :: st) σ = if x = y then exD X 201 1251 ls st σ else exD X 201 298 ls st σ := g_if_icmp_eq rfl
theorem a201_298 {X : SX} {ls : LS0} {st : List Value} {σ : SH} : exD X 201 298 ls st σ = exD X 201 299 ls (.int 0 :: st) σ := g_iconst rfl
theorem a201_299 {X : SX} {ls : LS0} {σ : SH} {x : Int32} : exD X 201 299 ls [.int x] σ = if x = 0 ∨ x = 1 then some (some (.int x), σ) else none := g_zret rfl rfl
theorem a201_300 {X : SX} {c0 : Option Value} {x : Nat} {t : LS0} {st : List Value} {σ : SH} : exD X 201 300 (c0 :: some (.ref x) :: t) st σ = exD X 201 301 (c0 :: some (.ref x) :: t) (.ref x :: st) σ := g_aload_1 rfl
theorem a201_301 {X : SX} {x : Nat} {t : LS0} {st : List Value} {σ : SH} : exD X 201 301 (some (.ref x) :: t) st σ = exD X 201 302 (some (.ref x) :: t) (.ref x :: st) σ := g_aload_0 rfl
theorem a201_302 {X : SX} {c0 c1 c2 : Option Value} {x : Int32} {t : LS0} {st : List Value} {σ : SH} : exD X 201 302 (c0 :: c1 :: c2 :: some (.int x) :: t) st σ = exD X 201 303 (c0 :: c1 :: c2 :: some (.int x) :: t) (.int x :: st) σ := g_iload_3 rfl
theorem a201_303 {X : SX} {ls : LS0} {st : List Value} {σ : SH} : exD X 201 303 ls st σ = exD X 201 304 ls (.int 1 :: st) σ := g_iconst rfl
theorem a201_304 {X : SX} {ls : LS0} {st : List Value} {σ : SH} {x y : Int32} : exD X 201 304 ls (.int y :: .int x :: st) σ = exD X 201 305 ls (.int (x + y) :: st) σ := g_iadd rfl
theorem a201_305 {X : SX} {ls : LS0} {st : List Value} {I : Nat → Nat → Int32} {L : Nat → Nat → Int64} {b : Nat} {i : Int32} (hb : b < 4096) : exD X 201 305 ls (.int i :: .ref b :: st) (ms I L) = iaR (hk (ms I L) b) i (exD X 201 306 ls (.int (I b i.toNatClampNeg) :: st) (ms I L)) := g_iald rfl hb
theorem a201_306 {X : SX} {x : Nat} {t : LS0} {st : List Value} {σ : SH} : exD X 201 306 (some (.ref x) :: t) st σ = exD X 201 307 (some (.ref x) :: t) (.ref x :: st) σ := g_aload_0 rfl
theorem a201_307 {X : SX} {c0 c1 c2 : Option Value} {x : Int32} {t : LS0} {st : List Value} {σ : SH} : exD X 201 307 (c0 :: c1 :: c2 :: some (.int x) :: t) st σ = exD X 201 308 (c0 :: c1 :: c2 :: some (.int x) :: t) (.int x :: st) σ := g_iload_3 rfl
theorem a201_308 {X : SX} {ls : LS0} {st : List Value} {σ : SH} : exD X 201 308 ls st σ = exD X 201 309 ls (.int 2 :: st) σ := g_iconst rfl
theorem a201_309 {X : SX} {ls : LS0} {st : List Value} {σ : SH} {x y : Int32} : exD X 201 309 ls (.int y :: .int x :: st) σ = exD X 201 310 ls (.int (x + y) :: st) σ := g_iadd rfl
theorem a201_310 {X : SX} {ls : LS0} {st : List Value} {I : Nat → Nat → Int32} {L : Nat → Nat → Int64} {b : Nat} {i : Int32} (hb : b < 4096) : exD X 201 310 ls (.int i :: .ref b :: st) (ms I L) = iaR (hk (ms I L) b) i (exD X 201 311 ls (.int (I b i.toNatClampNeg) :: st) (ms I L)) := g_iald rfl hb
theorem a201_311 {X : SX} {ls : LS0} {st : List Value} {I : Nat → Nat → Int32} {L : Nat → Nat → Int64} {w0 : Int32} {w1 : Int32} {b : Nat} (hb : hk (ms I L) b = some (0, 9)) (h8 : cS st ≤ 8) : exD X 201 311 ls (.int w1 :: .int w0 :: .ref b :: st) (ms I L) = cR (caD X 78 [.ref b, .int w0, .int w1] (ms I L)) (fun w s => exD X 201 314 ls (psh w st) s) := g_cv rfl rfl rfl (Nat.le_of_ble_eq_true rfl) h8 hb
theorem a201_314 {X : SX} {c0 c1 : Option Value} {x : Nat} {t : LS0} {st : List Value} {σ : SH} : exD X 201 314 (c0 :: c1 :: some (.ref x) :: t) st σ = exD X 201 315 (c0 :: c1 :: some (.ref x) :: t) (.ref x :: st) σ := g_aload_2 rfl
theorem a201_315 {X : SX} {x : Nat} {t : LS0} {st : List Value} {σ : SH} : exD X 201 315 (some (.ref x) :: t) st σ = exD X 201 316 (some (.ref x) :: t) (.ref x :: st) σ := g_aload_0 rfl
theorem a201_316 {X : SX} {c0 c1 c2 : Option Value} {x : Int32} {t : LS0} {st : List Value} {σ : SH} : exD X 201 316 (c0 :: c1 :: c2 :: some (.int x) :: t) st σ = exD X 201 317 (c0 :: c1 :: c2 :: some (.int x) :: t) (.int x :: st) σ := g_iload_3 rfl
theorem a201_317 {X : SX} {ls : LS0} {st : List Value} {σ : SH} : exD X 201 317 ls st σ = exD X 201 318 ls (.int 1 :: st) σ := g_iconst rfl
theorem a201_318 {X : SX} {ls : LS0} {st : List Value} {σ : SH} {x y : Int32} : exD X 201 318 ls (.int y :: .int x :: st) σ = exD X 201 319 ls (.int (x + y) :: st) σ := g_iadd rfl
theorem a201_319 {X : SX} {ls : LS0} {st : List Value} {I : Nat → Nat → Int32} {L : Nat → Nat → Int64} {b : Nat} {i : Int32} (hb : b < 4096) : exD X 201 319 ls (.int i :: .ref b :: st) (ms I L) = iaR (hk (ms I L) b) i (exD X 201 320 ls (.int (I b i.toNatClampNeg) :: st) (ms I L)) := g_iald rfl hb
theorem a201_320 {X : SX} {x : Nat} {t : LS0} {st : List Value} {σ : SH} : exD X 201 320 (some (.ref x) :: t) st σ = exD X 201 321 (some (.ref x) :: t) (.ref x :: st) σ := g_aload_0 rfl
theorem a201_321 {X : SX} {c0 c1 c2 : Option Value} {x : Int32} {t : LS0} {st : List Value} {σ : SH} : exD X 201 321 (c0 :: c1 :: c2 :: some (.int x) :: t) st σ = exD X 201 322 (c0 :: c1 :: c2 :: some (.int x) :: t) (.int x :: st) σ := g_iload_3 rfl
theorem a201_322 {X : SX} {ls : LS0} {st : List Value} {σ : SH} : exD X 201 322 ls st σ = exD X 201 323 ls (.int 2 :: st) σ := g_iconst rfl
theorem a201_323 {X : SX} {ls : LS0} {st : List Value} {σ : SH} {x y : Int32} : exD X 201 323 ls (.int y :: .int x :: st) σ = exD X 201 324 ls (.int (x + y) :: st) σ := g_iadd rfl
theorem a201_324 {X : SX} {ls : LS0} {st : List Value} {I : Nat → Nat → Int32} {L : Nat → Nat → Int64} {b : Nat} {i : Int32} (hb : b < 4096) : exD X 201 324 ls (.int i :: .ref b :: st) (ms I L) = iaR (hk (ms I L) b) i (exD X 201 325 ls (.int (I b i.toNatClampNeg) :: st) (ms I L)) := g_iald rfl hb
theorem a201_325 {X : SX} {ls : LS0} {st : List Value} {I : Nat → Nat → Int32} {L : Nat → Nat → Int64} {w0 : Int32} {w1 : Int32} {b : Nat} (hb : hk (ms I L) b = some (0, 10)) (h8 : cS st ≤ 8) : exD X 201 325 ls (.int w1 :: .int w0 :: .ref b :: st) (ms I L) = cR (caD X 153 [.ref b, .int w0, .int w1] (ms I L)) (fun w s => exD X 201 328 ls (psh w st) s) := g_cv rfl rfl rfl (Nat.le_of_ble_eq_true rfl) h8 hb
theorem a201_328 {X : SX} {ls : LS0} {st : List Value} {σ : SH} {x y : Int32} : exD X 201 328 ls (.int y :: .int x :: st) σ = if x = y then exD X 201 1251 ls st σ else exD X 201 331 ls st σ := g_if_icmp_eq rfl
theorem a201_331 {X : SX} {ls : LS0} {st : List Value} {σ : SH} : exD X 201 331 ls st σ = exD X 201 332 ls (.int 0 :: st) σ := g_iconst rfl
theorem a201_332 {X : SX} {ls : LS0} {σ : SH} {x : Int32} : exD X 201 332 ls [.int x] σ = if x = 0 ∨ x = 1 then some (some (.int x), σ) else none := g_zret rfl rfl
theorem a201_333 {X : SX} {c0 : Option Value} {x : Nat} {t : LS0} {st : List Value} {σ : SH} : exD X 201 333 (c0 :: some (.ref x) :: t) st σ = exD X 201 334 (c0 :: some (.ref x) :: t) (.ref x :: st) σ := g_aload_1 rfl
theorem a201_334 {X : SX} {x : Nat} {t : LS0} {st : List Value} {σ : SH} : exD X 201 334 (some (.ref x) :: t) st σ = exD X 201 335 (some (.ref x) :: t) (.ref x :: st) σ := g_aload_0 rfl
theorem a201_335 {X : SX} {c0 c1 c2 : Option Value} {x : Int32} {t : LS0} {st : List Value} {σ : SH} : exD X 201 335 (c0 :: c1 :: c2 :: some (.int x) :: t) st σ = exD X 201 336 (c0 :: c1 :: c2 :: some (.int x) :: t) (.int x :: st) σ := g_iload_3 rfl
set_option maxRecDepth 100000 in
theorem a201_336 {X : SX} {ls : LS0} {st : List Value} {σ : SH} : exD X 201 336 ls st σ = exD X 201 337 ls (.int 1 :: st) σ := g_iconst rfl
set_option maxRecDepth 100000 in
theorem a201_337 {X : SX} {ls : LS0} {st : List Value} {σ : SH} {x y : Int32} : exD X 201 337 ls (.int y :: .int x :: st) σ = exD X 201 338 ls (.int (x + y) :: st) σ := g_iadd rfl
set_option maxRecDepth 100000 in
theorem a201_338 {X : SX} {ls : LS0} {st : List Value} {I : Nat → Nat → Int32} {L : Nat → Nat → Int64} {b : Nat} {i : Int32} (hb : b < 4096) : exD X 201 338 ls (.int i :: .ref b :: st) (ms I L) = iaR (hk (ms I L) b) i (exD X 201 339 ls (.int (I b i.toNatClampNeg) :: st) (ms I L)) := g_iald rfl hb
set_option maxRecDepth 100000 in
theorem a201_339 {X : SX} {x : Nat} {t : LS0} {st : List Value} {σ : SH} : exD X 201 339 (some (.ref x) :: t) st σ = exD X 201 340 (some (.ref x) :: t) (.ref x :: st) σ := g_aload_0 rfl
set_option maxRecDepth 100000 in
theorem a201_340 {X : SX} {c0 c1 c2 : Option Value} {x : Int32} {t : LS0} {st : List Value} {σ : SH} : exD X 201 340 (c0 :: c1 :: c2 :: some (.int x) :: t) st σ = exD X 201 341 (c0 :: c1 :: c2 :: some (.int x) :: t) (.int x :: st) σ := g_iload_3 rfl
set_option maxRecDepth 100000 in
theorem a201_341 {X : SX} {ls : LS0} {st : List Value} {σ : SH} : exD X 201 341 ls st σ = exD X 201 342 ls (.int 2 :: st) σ := g_iconst rfl
set_option maxRecDepth 100000 in
theorem a201_342 {X : SX} {ls : LS0} {st : List Value} {σ : SH} {x y : Int32} : exD X 201 342 ls (.int y :: .int x :: st) σ = exD X 201 343 ls (.int (x + y) :: st) σ := g_iadd rfl
set_option maxRecDepth 100000 in
theorem a201_343 {X : SX} {ls : LS0} {st : List Value} {I : Nat → Nat → Int32} {L : Nat → Nat → Int64} {b : Nat} {i : Int32} (hb : b < 4096) : exD X 201 343 ls (.int i :: .ref b :: st) (ms I L) = iaR (hk (ms I L) b) i (exD X 201 344 ls (.int (I b i.toNatClampNeg) :: st) (ms I L)) := g_iald rfl hb
set_option maxRecDepth 100000 in
theorem a201_344 {X : SX} {ls : LS0} {st : List Value} {I : Nat → Nat → Int32} {L : Nat → Nat → Int64} {w0 : Int32} {w1 : Int32} {b : Nat} (hb : hk (ms I L) b = some (0, 9)) (h8 : cS st ≤ 8) : exD X 201 344 ls (.int w1 :: .int w0 :: .ref b :: st) (ms I L) = cR (caD X 79 [.ref b, .int w0, .int w1] (ms I L)) (fun w s => exD X 201 347 ls (psh w st) s) := g_cv rfl rfl rfl (Nat.le_of_ble_eq_true rfl) h8 hb
set_option maxRecDepth 100000 in
theorem a201_347 {X : SX} {c0 c1 : Option Value} {x : Nat} {t : LS0} {st : List Value} {σ : SH} : exD X 201 347 (c0 :: c1 :: some (.ref x) :: t) st σ = exD X 201 348 (c0 :: c1 :: some (.ref x) :: t) (.ref x :: st) σ := g_aload_2 rfl
set_option maxRecDepth 100000 in
theorem a201_348 {X : SX} {x : Nat} {t : LS0} {st : List Value} {σ : SH} : exD X 201 348 (some (.ref x) :: t) st σ = exD X 201 349 (some (.ref x) :: t) (.ref x :: st) σ := g_aload_0 rfl
set_option maxRecDepth 100000 in
theorem a201_349 {X : SX} {c0 c1 c2 : Option Value} {x : Int32} {t : LS0} {st : List Value} {σ : SH} : exD X 201 349 (c0 :: c1 :: c2 :: some (.int x) :: t) st σ = exD X 201 350 (c0 :: c1 :: c2 :: some (.int x) :: t) (.int x :: st) σ := g_iload_3 rfl
set_option maxRecDepth 100000 in
theorem a201_350 {X : SX} {ls : LS0} {st : List Value} {σ : SH} : exD X 201 350 ls st σ = exD X 201 351 ls (.int 1 :: st) σ := g_iconst rfl
set_option maxRecDepth 100000 in
theorem a201_351 {X : SX} {ls : LS0} {st : List Value} {σ : SH} {x y : Int32} : exD X 201 351 ls (.int y :: .int x :: st) σ = exD X 201 352 ls (.int (x + y) :: st) σ := g_iadd rfl
set_option maxRecDepth 100000 in
theorem a201_352 {X : SX} {ls : LS0} {st : List Value} {I : Nat → Nat → Int32} {L : Nat → Nat → Int64} {b : Nat} {i : Int32} (hb : b < 4096) : exD X 201 352 ls (.int i :: .ref b :: st) (ms I L) = iaR (hk (ms I L) b) i (exD X 201 353 ls (.int (I b i.toNatClampNeg) :: st) (ms I L)) := g_iald rfl hb
set_option maxRecDepth 100000 in
theorem a201_353 {X : SX} {x : Nat} {t : LS0} {st : List Value} {σ : SH} : exD X 201 353 (some (.ref x) :: t) st σ = exD X 201 354 (some (.ref x) :: t) (.ref x :: st) σ := g_aload_0 rfl
set_option maxRecDepth 100000 in
theorem a201_354 {X : SX} {c0 c1 c2 : Option Value} {x : Int32} {t : LS0} {st : List Value} {σ : SH} : exD X 201 354 (c0 :: c1 :: c2 :: some (.int x) :: t) st σ = exD X 201 355 (c0 :: c1 :: c2 :: some (.int x) :: t) (.int x :: st) σ := g_iload_3 rfl
set_option maxRecDepth 100000 in
theorem a201_355 {X : SX} {ls : LS0} {st : List Value} {σ : SH} : exD X 201 355 ls st σ = exD X 201 356 ls (.int 2 :: st) σ := g_iconst rfl
set_option maxRecDepth 100000 in
theorem a201_356 {X : SX} {ls : LS0} {st : List Value} {σ : SH} {x y : Int32} : exD X 201 356 ls (.int y :: .int x :: st) σ = exD X 201 357 ls (.int (x + y) :: st) σ := g_iadd rfl
set_option maxRecDepth 100000 in
theorem a201_357 {X : SX} {ls : LS0} {st : List Value} {I : Nat → Nat → Int32} {L : Nat → Nat → Int64} {b : Nat} {i : Int32} (hb : b < 4096) : exD X 201 357 ls (.int i :: .ref b :: st) (ms I L) = iaR (hk (ms I L) b) i (exD X 201 358 ls (.int (I b i.toNatClampNeg) :: st) (ms I L)) := g_iald rfl hb
set_option maxRecDepth 100000 in
theorem a201_358 {X : SX} {ls : LS0} {st : List Value} {I : Nat → Nat → Int32} {L : Nat → Nat → Int64} {w0 : Int32} {w1 : Int32} {b : Nat} (hb : hk (ms I L) b = some (0, 10)) (h8 : cS st ≤ 8) : exD X 201 358 ls (.int w1 :: .int w0 :: .ref b :: st) (ms I L) = cR (caD X 155 [.ref b, .int w0, .int w1] (ms I L)) (fun w s => exD X 201 361 ls (psh w st) s) := g_cv rfl rfl rfl (Nat.le_of_ble_eq_true rfl) h8 hb
set_option maxRecDepth 100000 in
theorem a201_361 {X : SX} {ls : LS0} {st : List Value} {σ : SH} {x y : Int32} : exD X 201 361 ls (.int y :: .int x :: st) σ = if x = y then exD X 201 1251 ls st σ else exD X 201 364 ls st σ := g_if_icmp_eq rfl
set_option maxRecDepth 100000 in
theorem a201_364 {X : SX} {ls : LS0} {st : List Value} {σ : SH} : exD X 201 364 ls st σ = exD X 201 365 ls (.int 0 :: st) σ := g_iconst rfl
set_option maxRecDepth 100000 in
theorem a201_365 {X : SX} {ls : LS0} {σ : SH} {x : Int32} : exD X 201 365 ls [.int x] σ = if x = 0 ∨ x = 1 then some (some (.int x), σ) else none := g_zret rfl rfl
set_option maxRecDepth 100000 in
theorem a201_366 {X : SX} {c0 : Option Value} {x : Nat} {t : LS0} {st : List Value} {σ : SH} : exD X 201 366 (c0 :: some (.ref x) :: t) st σ = exD X 201 367 (c0 :: some (.ref x) :: t) (.ref x :: st) σ := g_aload_1 rfl
set_option maxRecDepth 100000 in
theorem a201_367 {X : SX} {x : Nat} {t : LS0} {st : List Value} {σ : SH} : exD X 201 367 (some (.ref x) :: t) st σ = exD X 201 368 (some (.ref x) :: t) (.ref x :: st) σ := g_aload_0 rfl
set_option maxRecDepth 100000 in
theorem a201_368 {X : SX} {c0 c1 c2 : Option Value} {x : Int32} {t : LS0} {st : List Value} {σ : SH} : exD X 201 368 (c0 :: c1 :: c2 :: some (.int x) :: t) st σ = exD X 201 369 (c0 :: c1 :: c2 :: some (.int x) :: t) (.int x :: st) σ := g_iload_3 rfl
set_option maxRecDepth 100000 in
theorem a201_369 {X : SX} {ls : LS0} {st : List Value} {σ : SH} : exD X 201 369 ls st σ = exD X 201 370 ls (.int 1 :: st) σ := g_iconst rfl
set_option maxRecDepth 100000 in
theorem a201_370 {X : SX} {ls : LS0} {st : List Value} {σ : SH} {x y : Int32} : exD X 201 370 ls (.int y :: .int x :: st) σ = exD X 201 371 ls (.int (x + y) :: st) σ := g_iadd rfl
set_option maxRecDepth 100000 in
theorem a201_371 {X : SX} {ls : LS0} {st : List Value} {I : Nat → Nat → Int32} {L : Nat → Nat → Int64} {b : Nat} {i : Int32} (hb : b < 4096) : exD X 201 371 ls (.int i :: .ref b :: st) (ms I L) = iaR (hk (ms I L) b) i (exD X 201 372 ls (.int (I b i.toNatClampNeg) :: st) (ms I L)) := g_iald rfl hb
set_option maxRecDepth 100000 in
theorem a201_372 {X : SX} {x : Nat} {t : LS0} {st : List Value} {σ : SH} : exD X 201 372 (some (.ref x) :: t) st σ = exD X 201 373 (some (.ref x) :: t) (.ref x :: st) σ := g_aload_0 rfl
set_option maxRecDepth 100000 in
theorem a201_373 {X : SX} {c0 c1 c2 : Option Value} {x : Int32} {t : LS0} {st : List Value} {σ : SH} : exD X 201 373 (c0 :: c1 :: c2 :: some (.int x) :: t) st σ = exD X 201 374 (c0 :: c1 :: c2 :: some (.int x) :: t) (.int x :: st) σ := g_iload_3 rfl
set_option maxRecDepth 100000 in
theorem a201_374 {X : SX} {ls : LS0} {st : List Value} {σ : SH} : exD X 201 374 ls st σ = exD X 201 375 ls (.int 2 :: st) σ := g_iconst rfl
set_option maxRecDepth 100000 in
theorem a201_375 {X : SX} {ls : LS0} {st : List Value} {σ : SH} {x y : Int32} : exD X 201 375 ls (.int y :: .int x :: st) σ = exD X 201 376 ls (.int (x + y) :: st) σ := g_iadd rfl
set_option maxRecDepth 100000 in
theorem a201_376 {X : SX} {ls : LS0} {st : List Value} {I : Nat → Nat → Int32} {L : Nat → Nat → Int64} {b : Nat} {i : Int32} (hb : b < 4096) : exD X 201 376 ls (.int i :: .ref b :: st) (ms I L) = iaR (hk (ms I L) b) i (exD X 201 377 ls (.int (I b i.toNatClampNeg) :: st) (ms I L)) := g_iald rfl hb
set_option maxRecDepth 100000 in
theorem a201_377 {X : SX} {ls : LS0} {st : List Value} {I : Nat → Nat → Int32} {L : Nat → Nat → Int64} {w0 : Int32} {w1 : Int32} {b : Nat} (hb : hk (ms I L) b = some (0, 9)) (h8 : cS st ≤ 8) : exD X 201 377 ls (.int w1 :: .int w0 :: .ref b :: st) (ms I L) = cR (caD X 80 [.ref b, .int w0, .int w1] (ms I L)) (fun w s => exD X 201 380 ls (psh w st) s) := g_cv rfl rfl rfl (Nat.le_of_ble_eq_true rfl) h8 hb
set_option maxRecDepth 100000 in
theorem a201_380 {X : SX} {c0 c1 : Option Value} {x : Nat} {t : LS0} {st : List Value} {σ : SH} : exD X 201 380 (c0 :: c1 :: some (.ref x) :: t) st σ = exD X 201 381 (c0 :: c1 :: some (.ref x) :: t) (.ref x :: st) σ := g_aload_2 rfl
set_option maxRecDepth 100000 in
theorem a201_381 {X : SX} {x : Nat} {t : LS0} {st : List Value} {σ : SH} : exD X 201 381 (some (.ref x) :: t) st σ = exD X 201 382 (some (.ref x) :: t) (.ref x :: st) σ := g_aload_0 rfl
set_option maxRecDepth 100000 in
theorem a201_382 {X : SX} {c0 c1 c2 : Option Value} {x : Int32} {t : LS0} {st : List Value} {σ : SH} : exD X 201 382 (c0 :: c1 :: c2 :: some (.int x) :: t) st σ = exD X 201 383 (c0 :: c1 :: c2 :: some (.int x) :: t) (.int x :: st) σ := g_iload_3 rfl
set_option maxRecDepth 100000 in
theorem a201_383 {X : SX} {ls : LS0} {st : List Value} {σ : SH} : exD X 201 383 ls st σ = exD X 201 384 ls (.int 1 :: st) σ := g_iconst rfl
set_option maxRecDepth 100000 in
theorem a201_384 {X : SX} {ls : LS0} {st : List Value} {σ : SH} {x y : Int32} : exD X 201 384 ls (.int y :: .int x :: st) σ = exD X 201 385 ls (.int (x + y) :: st) σ := g_iadd rfl
set_option maxRecDepth 100000 in
theorem a201_385 {X : SX} {ls : LS0} {st : List Value} {I : Nat → Nat → Int32} {L : Nat → Nat → Int64} {b : Nat} {i : Int32} (hb : b < 4096) : exD X 201 385 ls (.int i :: .ref b :: st) (ms I L) = iaR (hk (ms I L) b) i (exD X 201 386 ls (.int (I b i.toNatClampNeg) :: st) (ms I L)) := g_iald rfl hb
set_option maxRecDepth 100000 in
theorem a201_386 {X : SX} {x : Nat} {t : LS0} {st : List Value} {σ : SH} : exD X 201 386 (some (.ref x) :: t) st σ = exD X 201 387 (some (.ref x) :: t) (.ref x :: st) σ := g_aload_0 rfl
set_option maxRecDepth 100000 in
theorem a201_387 {X : SX} {c0 c1 c2 : Option Value} {x : Int32} {t : LS0} {st : List Value} {σ : SH} : exD X 201 387 (c0 :: c1 :: c2 :: some (.int x) :: t) st σ = exD X 201 388 (c0 :: c1 :: c2 :: some (.int x) :: t) (.int x :: st) σ := g_iload_3 rfl
set_option maxRecDepth 100000 in
theorem a201_388 {X : SX} {ls : LS0} {st : List Value} {σ : SH} : exD X 201 388 ls st σ = exD X 201 389 ls (.int 2 :: st) σ := g_iconst rfl
set_option maxRecDepth 100000 in
theorem a201_389 {X : SX} {ls : LS0} {st : List Value} {σ : SH} {x y : Int32} : exD X 201 389 ls (.int y :: .int x :: st) σ = exD X 201 390 ls (.int (x + y) :: st) σ := g_iadd rfl
set_option maxRecDepth 100000 in
theorem a201_390 {X : SX} {ls : LS0} {st : List Value} {I : Nat → Nat → Int32} {L : Nat → Nat → Int64} {b : Nat} {i : Int32} (hb : b < 4096) : exD X 201 390 ls (.int i :: .ref b :: st) (ms I L) = iaR (hk (ms I L) b) i (exD X 201 391 ls (.int (I b i.toNatClampNeg) :: st) (ms I L)) := g_iald rfl hb
set_option maxRecDepth 100000 in
theorem a201_391 {X : SX} {ls : LS0} {st : List Value} {I : Nat → Nat → Int32} {L : Nat → Nat → Int64} {w0 : Int32} {w1 : Int32} {b : Nat} (hb : hk (ms I L) b = some (0, 10)) (h8 : cS st ≤ 8) : exD X 201 391 ls (.int w1 :: .int w0 :: .ref b :: st) (ms I L) = cR (caD X 156 [.ref b, .int w0, .int w1] (ms I L)) (fun w s => exD X 201 394 ls (psh w st) s) := g_cv rfl rfl rfl (Nat.le_of_ble_eq_true rfl) h8 hb
set_option maxRecDepth 100000 in
theorem a201_394 {X : SX} {ls : LS0} {st : List Value} {σ : SH} {x y : Int32} : exD X 201 394 ls (.int y :: .int x :: st) σ = if x = y then exD X 201 1251 ls st σ else exD X 201 397 ls st σ := g_if_icmp_eq rfl
set_option maxRecDepth 100000 in
theorem a201_397 {X : SX} {ls : LS0} {st : List Value} {σ : SH} : exD X 201 397 ls st σ = exD X 201 398 ls (.int 0 :: st) σ := g_iconst rfl
set_option maxRecDepth 100000 in
theorem a201_398 {X : SX} {ls : LS0} {σ : SH} {x : Int32} : exD X 201 398 ls [.int x] σ = if x = 0 ∨ x = 1 then some (some (.int x), σ) else none := g_zret rfl rfl
set_option maxRecDepth 100000 in
theorem a201_399 {X : SX} {c0 : Option Value} {x : Nat} {t : LS0} {st : List Value} {σ : SH} : exD X 201 399 (c0 :: some (.ref x) :: t) st σ = exD X 201 400 (c0 :: some (.ref x) :: t) (.ref x :: st) σ := g_aload_1 rfl
set_option maxRecDepth 100000 in
theorem a201_400 {X : SX} {x : Nat} {t : LS0} {st : List Value} {σ : SH} : exD X 201 400 (some (.ref x) :: t) st σ = exD X 201 401 (some (.ref x) :: t) (.ref x :: st) σ := g_aload_0 rfl
set_option maxRecDepth 100000 in
theorem a201_401 {X : SX} {c0 c1 c2 : Option Value} {x : Int32} {t : LS0} {st : List Value} {σ : SH} : exD X 201 401 (c0 :: c1 :: c2 :: some (.int x) :: t) st σ = exD X 201 402 (c0 :: c1 :: c2 :: some (.int x) :: t) (.int x :: st) σ := g_iload_3 rfl
set_option maxRecDepth 100000 in
theorem a201_402 {X : SX} {ls : LS0} {st : List Value} {σ : SH} : exD X 201 402 ls st σ = exD X 201 403 ls (.int 1 :: st) σ := g_iconst rfl
set_option maxRecDepth 100000 in
theorem a201_403 {X : SX} {ls : LS0} {st : List Value} {σ : SH} {x y : Int32} : exD X 201 403 ls (.int y :: .int x :: st) σ = exD X 201 404 ls (.int (x + y) :: st) σ := g_iadd rfl
set_option maxRecDepth 100000 in
theorem a201_404 {X : SX} {ls : LS0} {st : List Value} {I : Nat → Nat → Int32} {L : Nat → Nat → Int64} {b : Nat} {i : Int32} (hb : b < 4096) : exD X 201 404 ls (.int i :: .ref b :: st) (ms I L) = iaR (hk (ms I L) b) i (exD X 201 405 ls (.int (I b i.toNatClampNeg) :: st) (ms I L)) := g_iald rfl hb
set_option maxRecDepth 100000 in
theorem a201_405 {X : SX} {x : Nat} {t : LS0} {st : List Value} {σ : SH} : exD X 201 405 (some (.ref x) :: t) st σ = exD X 201 406 (some (.ref x) :: t) (.ref x :: st) σ := g_aload_0 rfl
set_option maxRecDepth 100000 in
theorem a201_406 {X : SX} {c0 c1 c2 : Option Value} {x : Int32} {t : LS0} {st : List Value} {σ : SH} : exD X 201 406 (c0 :: c1 :: c2 :: some (.int x) :: t) st σ = exD X 201 407 (c0 :: c1 :: c2 :: some (.int x) :: t) (.int x :: st) σ := g_iload_3 rfl
set_option maxRecDepth 100000 in
theorem a201_407 {X : SX} {ls : LS0} {st : List Value} {σ : SH} : exD X 201 407 ls st σ = exD X 201 408 ls (.int 2 :: st) σ := g_iconst rfl
set_option maxRecDepth 100000 in
theorem a201_408 {X : SX} {ls : LS0} {st : List Value} {σ : SH} {x y : Int32} : exD X 201 408 ls (.int y :: .int x :: st) σ = exD X 201 409 ls (.int (x + y) :: st) σ := g_iadd rfl
set_option maxRecDepth 100000 in
theorem a201_409 {X : SX} {ls : LS0} {st : List Value} {I : Nat → Nat → Int32} {L : Nat → Nat → Int64} {b : Nat} {i : Int32} (hb : b < 4096) : exD X 201 409 ls (.int i :: .ref b :: st) (ms I L) = iaR (hk (ms I L) b) i (exD X 201 410 ls (.int (I b i.toNatClampNeg) :: st) (ms I L)) := g_iald rfl hb
set_option maxRecDepth 100000 in
theorem a201_410 {X : SX} {ls : LS0} {st : List Value} {I : Nat → Nat → Int32} {L : Nat → Nat → Int64} {w0 : Int32} {w1 : Int32} {b : Nat} (hb : hk (ms I L) b = some (0, 9)) (h8 : cS st ≤ 8) : exD X 201 410 ls (.int w1 :: .int w0 :: .ref b :: st) (ms I L) = cR (caD X 81 [.ref b, .int w0, .int w1] (ms I L)) (fun w s => exD X 201 413 ls (psh w st) s) := g_cv rfl rfl rfl (Nat.le_of_ble_eq_true rfl) h8 hb
set_option maxRecDepth 100000 in
theorem a201_413 {X : SX} {c0 c1 : Option Value} {x : Nat} {t : LS0} {st : List Value} {σ : SH} : exD X 201 413 (c0 :: c1 :: some (.ref x) :: t) st σ = exD X 201 414 (c0 :: c1 :: some (.ref x) :: t) (.ref x :: st) σ := g_aload_2 rfl
set_option maxRecDepth 100000 in
theorem a201_414 {X : SX} {x : Nat} {t : LS0} {st : List Value} {σ : SH} : exD X 201 414 (some (.ref x) :: t) st σ = exD X 201 415 (some (.ref x) :: t) (.ref x :: st) σ := g_aload_0 rfl
set_option maxRecDepth 100000 in
theorem a201_415 {X : SX} {c0 c1 c2 : Option Value} {x : Int32} {t : LS0} {st : List Value} {σ : SH} : exD X 201 415 (c0 :: c1 :: c2 :: some (.int x) :: t) st σ = exD X 201 416 (c0 :: c1 :: c2 :: some (.int x) :: t) (.int x :: st) σ := g_iload_3 rfl
set_option maxRecDepth 100000 in
theorem a201_416 {X : SX} {ls : LS0} {st : List Value} {σ : SH} : exD X 201 416 ls st σ = exD X 201 417 ls (.int 1 :: st) σ := g_iconst rfl
set_option maxRecDepth 100000 in
theorem a201_417 {X : SX} {ls : LS0} {st : List Value} {σ : SH} {x y : Int32} : exD X 201 417 ls (.int y :: .int x :: st) σ = exD X 201 418 ls (.int (x + y) :: st) σ := g_iadd rfl
set_option maxRecDepth 100000 in
theorem a201_418 {X : SX} {ls : LS0} {st : List Value} {I : Nat → Nat → Int32} {L : Nat → Nat → Int64} {b : Nat} {i : Int32} (hb : b < 4096) : exD X 201 418 ls (.int i :: .ref b :: st) (ms I L) = iaR (hk (ms I L) b) i (exD X 201 419 ls (.int (I b i.toNatClampNeg) :: st) (ms I L)) := g_iald rfl hb
set_option maxRecDepth 100000 in
theorem a201_419 {X : SX} {x : Nat} {t : LS0} {st : List Value} {σ : SH} : exD X 201 419 (some (.ref x) :: t) st σ = exD X 201 420 (some (.ref x) :: t) (.ref x :: st) σ := g_aload_0 rfl
set_option maxRecDepth 100000 in
theorem a201_420 {X : SX} {c0 c1 c2 : Option Value} {x : Int32} {t : LS0} {st : List Value} {σ : SH} : exD X 201 420 (c0 :: c1 :: c2 :: some (.int x) :: t) st σ = exD X 201 421 (c0 :: c1 :: c2 :: some (.int x) :: t) (.int x :: st) σ := g_iload_3 rfl
set_option maxRecDepth 100000 in
theorem a201_421 {X : SX} {ls : LS0} {st : List Value} {σ : SH} : exD X 201 421 ls st σ = exD X 201 422 ls (.int 2 :: st) σ := g_iconst rfl
set_option maxRecDepth 100000 in
theorem a201_422 {X : SX} {ls : LS0} {st : List Value} {σ : SH} {x y : Int32} : exD X 201 422 ls (.int y :: .int x :: st) σ = exD X 201 423 ls (.int (x + y) :: st) σ := g_iadd rfl
set_option maxRecDepth 100000 in
theorem a201_423 {X : SX} {ls : LS0} {st : List Value} {I : Nat → Nat → Int32} {L : Nat → Nat → Int64} {b : Nat} {i : Int32} (hb : b < 4096) : exD X 201 423 ls (.int i :: .ref b :: st) (ms I L) = iaR (hk (ms I L) b) i (exD X 201 424 ls (.int (I b i.toNatClampNeg) :: st) (ms I L)) := g_iald rfl hb
set_option maxRecDepth 100000 in
theorem a201_424 {X : SX} {ls : LS0} {st : List Value} {I : Nat → Nat → Int32} {L : Nat → Nat → Int64} {w0 : Int32} {w1 : Int32} {b : Nat} (hb : hk (ms I L) b = some (0, 10)) (h8 : cS st ≤ 8) : exD X 201 424 ls (.int w1 :: .int w0 :: .ref b :: st) (ms I L) = cR (caD X 157 [.ref b, .int w0, .int w1] (ms I L)) (fun w s => exD X 201 427 ls (psh w st) s) := g_cv rfl rfl rfl (Nat.le_of_ble_eq_true rfl) h8 hb
set_option maxRecDepth 100000 in
theorem a201_427 {X : SX} {ls : LS0} {st : List Value} {σ : SH} {x y : Int32} : exD X 201 427 ls (.int y :: .int x :: st) σ = if x = y then exD X 201 1251 ls st σ else exD X 201 430 ls st σ := g_if_icmp_eq rfl
set_option maxRecDepth 100000 in
theorem a201_430 {X : SX} {ls : LS0} {st : List Value} {σ : SH} : exD X 201 430 ls st σ = exD X 201 431 ls (.int 0 :: st) σ := g_iconst rfl
set_option maxRecDepth 100000 in
theorem a201_431 {X : SX} {ls : LS0} {σ : SH} {x : Int32} : exD X 201 431 ls [.int x] σ = if x = 0 ∨ x = 1 then some (some (.int x), σ) else none := g_zret rfl rfl
set_option maxRecDepth 100000 in
theorem a201_432 {X : SX} {c0 : Option Value} {x : Nat} {t : LS0} {st : List Value} {σ : SH} : exD X 201 432 (c0 :: some (.ref x) :: t) st σ = exD X 201 433 (c0 :: some (.ref x) :: t) (.ref x :: st) σ := g_aload_1 rfl
set_option maxRecDepth 100000 in
theorem a201_433 {X : SX} {x : Nat} {t : LS0} {st : List Value} {σ : SH} : exD X 201 433 (some (.ref x) :: t) st σ = exD X 201 434 (some (.ref x) :: t) (.ref x :: st) σ := g_aload_0 rfl
set_option maxRecDepth 100000 in
theorem a201_434 {X : SX} {c0 c1 c2 : Option Value} {x : Int32} {t : LS0} {st : List Value} {σ : SH} : exD X 201 434 (c0 :: c1 :: c2 :: some (.int x) :: t) st σ = exD X 201 435 (c0 :: c1 :: c2 :: some (.int x) :: t) (.int x :: st) σ := g_iload_3 rfl
set_option maxRecDepth 100000 in
theorem a201_435 {X : SX} {ls : LS0} {st : List Value} {σ : SH} : exD X 201 435 ls st σ = exD X 201 436 ls (.int 1 :: st) σ := g_iconst rfl
set_option maxRecDepth 100000 in
theorem a201_436 {X : SX} {ls : LS0} {st : List Value} {σ : SH} {x y : Int32} : exD X 201 436 ls (.int y :: .int x :: st) σ = exD X 201 437 ls (.int (x + y) :: st) σ := g_iadd rfl
set_option maxRecDepth 100000 in
theorem a201_437 {X : SX} {ls : LS0} {st : List Value} {I : Nat → Nat → Int32} {L : Nat → Nat → Int64} {b : Nat} {i : Int32} (hb : b < 4096) : exD X 201 437 ls (.int i :: .ref b :: st) (ms I L) = iaR (hk (ms I L) b) i (exD X 201 438 ls (.int (I b i.toNatClampNeg) :: st) (ms I L)) := g_iald rfl hb
set_option maxRecDepth 100000 in
theorem a201_438 {X : SX} {x : Nat} {t : LS0} {st : List Value} {σ : SH} : exD X 201 438 (some (.ref x) :: t) st σ = exD X 201 439 (some (.ref x) :: t) (.ref x :: st) σ := g_aload_0 rfl
set_option maxRecDepth 100000 in
theorem a201_439 {X : SX} {c0 c1 c2 : Option Value} {x : Int32} {t : LS0} {st : List Value} {σ : SH} : exD X 201 439 (c0 :: c1 :: c2 :: some (.int x) :: t) st σ = exD X 201 440 (c0 :: c1 :: c2 :: some (.int x) :: t) (.int x :: st) σ := g_iload_3 rfl
set_option maxRecDepth 100000 in
theorem a201_440 {X : SX} {ls : LS0} {st : List Value} {σ : SH} : exD X 201 440 ls st σ = exD X 201 441 ls (.int 2 :: st) σ := g_iconst rfl
set_option maxRecDepth 100000 in
theorem a201_441 {X : SX} {ls : LS0} {st : List Value} {σ : SH} {x y : Int32} : exD X 201 441 ls (.int y :: .int x :: st) σ = exD X 201 442 ls (.int (x + y) :: st) σ := g_iadd rfl
set_option maxRecDepth 100000 in
theorem a201_442 {X : SX} {ls : LS0} {st : List Value} {I : Nat → Nat → Int32} {L : Nat → Nat → Int64} {b : Nat} {i : Int32} (hb : b < 4096) : exD X 201 442 ls (.int i :: .ref b :: st) (ms I L) = iaR (hk (ms I L) b) i (exD X 201 443 ls (.int (I b i.toNatClampNeg) :: st) (ms I L)) := g_iald rfl hb
set_option maxRecDepth 100000 in
theorem a201_443 {X : SX} {x : Nat} {t : LS0} {st : List Value} {σ : SH} : exD X 201 443 (some (.ref x) :: t) st σ = exD X 201 444 (some (.ref x) :: t) (.ref x :: st) σ := g_aload_0 rfl
set_option maxRecDepth 100000 in
theorem a201_444 {X : SX} {c0 c1 c2 : Option Value} {x : Int32} {t : LS0} {st : List Value} {σ : SH} : exD X 201 444 (c0 :: c1 :: c2 :: some (.int x) :: t) st σ = exD X 201 445 (c0 :: c1 :: c2 :: some (.int x) :: t) (.int x :: st) σ := g_iload_3 rfl
set_option maxRecDepth 100000 in
theorem a201_445 {X : SX} {ls : LS0} {st : List Value} {σ : SH} : exD X 201 445 ls st σ = exD X 201 446 ls (.int 3 :: st) σ := g_iconst rfl
set_option maxRecDepth 100000 in
theorem a201_446 {X : SX} {ls : LS0} {st : List Value} {σ : SH} {x y : Int32} : exD X 201 446 ls (.int y :: .int x :: st) σ = exD X 201 447 ls (.int (x + y) :: st) σ := g_iadd rfl
set_option maxRecDepth 100000 in
theorem a201_447 {X : SX} {ls : LS0} {st : List Value} {I : Nat → Nat → Int32} {L : Nat → Nat → Int64} {b : Nat} {i : Int32} (hb : b < 4096) : exD X 201 447 ls (.int i :: .ref b :: st) (ms I L) = iaR (hk (ms I L) b) i (exD X 201 448 ls (.int (I b i.toNatClampNeg) :: st) (ms I L)) := g_iald rfl hb
set_option maxRecDepth 100000 in
theorem a201_448 {X : SX} {ls : LS0} {st : List Value} {σ : SH} {x : Int32} : exD X 201 448 ls (.int x :: st) σ = if x = 0 then exD X 201 455 ls st σ else exD X 201 451 ls st σ := g_ifCond_eq rfl
set_option maxRecDepth 100000 in
theorem a201_451 {X : SX} {ls : LS0} {st : List Value} {σ : SH} : exD X 201 451 ls st σ = exD X 201 452 ls (.int 1 :: st) σ := g_iconst rfl
set_option maxRecDepth 100000 in
theorem a201_452 {X : SX} {ls : LS0} {st : List Value} {σ : SH} : exD X 201 452 ls st σ = exD X 201 456 ls st σ := g_goto rfl
set_option maxRecDepth 100000 in
theorem a201_455 {X : SX} {ls : LS0} {st : List Value} {σ : SH} : exD X 201 455 ls st σ = exD X 201 456 ls (.int 0 :: st) σ := g_iconst rfl
set_option maxRecDepth 100000 in
theorem a201_456 {X : SX} {ls : LS0} {st : List Value} {I : Nat → Nat → Int32} {L : Nat → Nat → Int64} {w0 : Int32} {w1 : Int32} {w2 : Int32} {b : Nat} (hb : hk (ms I L) b = some (0, 9)) (h8 : cS st ≤ 8) : exD X 201 456 ls (.int w2 :: .int w1 :: .int w0 :: .ref b :: st) (ms I L) = cR (caD X 82 [.ref b, .int w0, .int w1, .int w2] (ms I L)) (fun w s => exD X 201 459 ls (psh w st) s) := g_cv rfl rfl rfl (Nat.le_of_ble_eq_true rfl) h8 hb
set_option maxRecDepth 100000 in
theorem a201_459 {X : SX} {c0 c1 : Option Value} {x : Nat} {t : LS0} {st : List Value} {σ : SH} : exD X 201 459 (c0 :: c1 :: some (.ref x) :: t) st σ = exD X 201 460 (c0 :: c1 :: some (.ref x) :: t) (.ref x :: st) σ := g_aload_2 rfl
set_option maxRecDepth 100000 in
theorem a201_460 {X : SX} {x : Nat} {t : LS0} {st : List Value} {σ : SH} : exD X 201 460 (some (.ref x) :: t) st σ = exD X 201 461 (some (.ref x) :: t) (.ref x :: st) σ := g_aload_0 rfl
set_option maxRecDepth 100000 in
theorem a201_461 {X : SX} {c0 c1 c2 : Option Value} {x : Int32} {t : LS0} {st : List Value} {σ : SH} : exD X 201 461 (c0 :: c1 :: c2 :: some (.int x) :: t) st σ = exD X 201 462 (c0 :: c1 :: c2 :: some (.int x) :: t) (.int x :: st) σ := g_iload_3 rfl
set_option maxRecDepth 100000 in
theorem a201_462 {X : SX} {ls : LS0} {st : List Value} {σ : SH} : exD X 201 462 ls st σ = exD X 201 463 ls (.int 1 :: st) σ := g_iconst rfl
set_option maxRecDepth 100000 in
theorem a201_463 {X : SX} {ls : LS0} {st : List Value} {σ : SH} {x y : Int32} : exD X 201 463 ls (.int y :: .int x :: st) σ = exD X 201 464 ls (.int (x + y) :: st) σ := g_iadd rfl
set_option maxRecDepth 100000 in
theorem a201_464 {X : SX} {ls : LS0} {st : List Value} {I : Nat → Nat → Int32} {L : Nat → Nat → Int64} {b : Nat} {i : Int32} (hb : b < 4096) : exD X 201 464 ls (.int i :: .ref b :: st) (ms I L) = iaR (hk (ms I L) b) i (exD X 201 465 ls (.int (I b i.toNatClampNeg) :: st) (ms I L)) := g_iald rfl hb
set_option maxRecDepth 100000 in
theorem a201_465 {X : SX} {x : Nat} {t : LS0} {st : List Value} {σ : SH} : exD X 201 465 (some (.ref x) :: t) st σ = exD X 201 466 (some (.ref x) :: t) (.ref x :: st) σ := g_aload_0 rfl
set_option maxRecDepth 100000 in
theorem a201_466 {X : SX} {c0 c1 c2 : Option Value} {x : Int32} {t : LS0} {st : List Value} {σ : SH} : exD X 201 466 (c0 :: c1 :: c2 :: some (.int x) :: t) st σ = exD X 201 467 (c0 :: c1 :: c2 :: some (.int x) :: t) (.int x :: st) σ := g_iload_3 rfl
set_option maxRecDepth 100000 in
theorem a201_467 {X : SX} {ls : LS0} {st : List Value} {σ : SH} : exD X 201 467 ls st σ = exD X 201 468 ls (.int 2 :: st) σ := g_iconst rfl
set_option maxRecDepth 100000 in
theorem a201_468 {X : SX} {ls : LS0} {st : List Value} {σ : SH} {x y : Int32} : exD X 201 468 ls (.int y :: .int x :: st) σ = exD X 201 469 ls (.int (x + y) :: st) σ := g_iadd rfl
set_option maxRecDepth 100000 in
theorem a201_469 {X : SX} {ls : LS0} {st : List Value} {I : Nat → Nat → Int32} {L : Nat → Nat → Int64} {b : Nat} {i : Int32} (hb : b < 4096) : exD X 201 469 ls (.int i :: .ref b :: st) (ms I L) = iaR (hk (ms I L) b) i (exD X 201 470 ls (.int (I b i.toNatClampNeg) :: st) (ms I L)) := g_iald rfl hb
set_option maxRecDepth 100000 in
theorem a201_470 {X : SX} {x : Nat} {t : LS0} {st : List Value} {σ : SH} : exD X 201 470 (some (.ref x) :: t) st σ = exD X 201 471 (some (.ref x) :: t) (.ref x :: st) σ := g_aload_0 rfl
set_option maxRecDepth 100000 in
theorem a201_471 {X : SX} {c0 c1 c2 : Option Value} {x : Int32} {t : LS0} {st : List Value} {σ : SH} : exD X 201 471 (c0 :: c1 :: c2 :: some (.int x) :: t) st σ = exD X 201 472 (c0 :: c1 :: c2 :: some (.int x) :: t) (.int x :: st) σ := g_iload_3 rfl
set_option maxRecDepth 100000 in
theorem a201_472 {X : SX} {ls : LS0} {st : List Value} {σ : SH} : exD X 201 472 ls st σ = exD X 201 473 ls (.int 3 :: st) σ := g_iconst rfl
set_option maxRecDepth 100000 in
theorem a201_473 {X : SX} {ls : LS0} {st : List Value} {σ : SH} {x y : Int32} : exD X 201 473 ls (.int y :: .int x :: st) σ = exD X 201 474 ls (.int (x + y) :: st) σ := g_iadd rfl
set_option maxRecDepth 100000 in
theorem a201_474 {X : SX} {ls : LS0} {st : List Value} {I : Nat → Nat → Int32} {L : Nat → Nat → Int64} {b : Nat} {i : Int32} (hb : b < 4096) : exD X 201 474 ls (.int i :: .ref b :: st) (ms I L) = iaR (hk (ms I L) b) i (exD X 201 475 ls (.int (I b i.toNatClampNeg) :: st) (ms I L)) := g_iald rfl hb
set_option maxRecDepth 100000 in
theorem a201_475 {X : SX} {ls : LS0} {st : List Value} {σ : SH} {x : Int32} : exD X 201 475 ls (.int x :: st) σ = if x = 0 then exD X 201 482 ls st σ else exD X 201 478 ls st σ := g_ifCond_eq rfl
set_option maxRecDepth 100000 in
theorem a201_478 {X : SX} {ls : LS0} {st : List Value} {σ : SH} : exD X 201 478 ls st σ = exD X 201 479 ls (.int 1 :: st) σ := g_iconst rfl
set_option maxRecDepth 100000 in
theorem a201_479 {X : SX} {ls : LS0} {st : List Value} {σ : SH} : exD X 201 479 ls st σ = exD X 201 483 ls st σ := g_goto rfl
set_option maxRecDepth 100000 in
theorem a201_482 {X : SX} {ls : LS0} {st : List Value} {σ : SH} : exD X 201 482 ls st σ = exD X 201 483 ls (.int 0 :: st) σ := g_iconst rfl
set_option maxRecDepth 100000 in
theorem a201_483 {X : SX} {ls : LS0} {st : List Value} {I : Nat → Nat → Int32} {L : Nat → Nat → Int64} {w0 : Int32} {w1 : Int32} {w2 : Int32} {b : Nat} (hb : hk (ms I L) b = some (0, 10)) (h8 : cS st ≤ 8) : exD X 201 483 ls (.int w2 :: .int w1 :: .int w0 :: .ref b :: st) (ms I L) = cR (caD X 158 [.ref b, .int w0, .int w1, .int w2] (ms I L)) (fun w s => exD X 201 486 ls (psh w st) s) := g_cv rfl rfl rfl (Nat.le_of_ble_eq_true rfl) h8 hb
set_option maxRecDepth 100000 in
theorem a201_486 {X : SX} {ls : LS0} {st : List Value} {σ : SH} {x y : Int32} : exD X 201 486 ls (.int y :: .int x :: st) σ = if x = y then exD X 201 1251 ls st σ else exD X 201 489 ls st σ := g_if_icmp_eq rfl
set_option maxRecDepth 100000 in
theorem a201_489 {X : SX} {ls : LS0} {st : List Value} {σ : SH} : exD X 201 489 ls st σ = exD X 201 490 ls (.int 0 :: st) σ := g_iconst rfl
set_option maxRecDepth 100000 in
theorem a201_490 {X : SX} {ls : LS0} {σ : SH} {x : Int32} : exD X 201 490 ls [.int x] σ = if x = 0 ∨ x = 1 then some (some (.int x), σ) else none := g_zret rfl rfl
set_option maxRecDepth 100000 in
theorem a201_491 {X : SX} {c0 : Option Value} {x : Nat} {t : LS0} {st : List Value} {σ : SH} : exD X 201 491 (c0 :: some (.ref x) :: t) st σ = exD X 201 492 (c0 :: some (.ref x) :: t) (.ref x :: st) σ := g_aload_1 rfl
set_option maxRecDepth 100000 in
theorem a201_492 {X : SX} {x : Nat} {t : LS0} {st : List Value} {σ : SH} : exD X 201 492 (some (.ref x) :: t) st σ = exD X 201 493 (some (.ref x) :: t) (.ref x :: st) σ := g_aload_0 rfl
set_option maxRecDepth 100000 in
theorem a201_493 {X : SX} {c0 c1 c2 : Option Value} {x : Int32} {t : LS0} {st : List Value} {σ : SH} : exD X 201 493 (c0 :: c1 :: c2 :: some (.int x) :: t) st σ = exD X 201 494 (c0 :: c1 :: c2 :: some (.int x) :: t) (.int x :: st) σ := g_iload_3 rfl
set_option maxRecDepth 100000 in
theorem a201_494 {X : SX} {ls : LS0} {st : List Value} {σ : SH} : exD X 201 494 ls st σ = exD X 201 495 ls (.int 1 :: st) σ := g_iconst rfl
set_option maxRecDepth 100000 in
theorem a201_495 {X : SX} {ls : LS0} {st : List Value} {σ : SH} {x y : Int32} : exD X 201 495 ls (.int y :: .int x :: st) σ = exD X 201 496 ls (.int (x + y) :: st) σ := g_iadd rfl
set_option maxRecDepth 100000 in
theorem a201_496 {X : SX} {ls : LS0} {st : List Value} {I : Nat → Nat → Int32} {L : Nat → Nat → Int64} {b : Nat} {i : Int32} (hb : b < 4096) : exD X 201 496 ls (.int i :: .ref b :: st) (ms I L) = iaR (hk (ms I L) b) i (exD X 201 497 ls (.int (I b i.toNatClampNeg) :: st) (ms I L)) := g_iald rfl hb
set_option maxRecDepth 100000 in
theorem a201_497 {X : SX} {ls : LS0} {st : List Value} {I : Nat → Nat → Int32} {L : Nat → Nat → Int64} {w0 : Int32} {b : Nat} (hb : hk (ms I L) b = some (0, 9)) (h8 : cS st ≤ 8) : exD X 201 497 ls (.int w0 :: .ref b :: st) (ms I L) = cR (caD X 83 [.ref b, .int w0] (ms I L)) (fun w s => exD X 201 500 ls (psh w st) s) := g_cv rfl rfl rfl (Nat.le_of_ble_eq_true rfl) h8 hb
set_option maxRecDepth 100000 in
theorem a201_500 {X : SX} {c0 c1 : Option Value} {x : Nat} {t : LS0} {st : List Value} {σ : SH} : exD X 201 500 (c0 :: c1 :: some (.ref x) :: t) st σ = exD X 201 501 (c0 :: c1 :: some (.ref x) :: t) (.ref x :: st) σ := g_aload_2 rfl
set_option maxRecDepth 100000 in
theorem a201_501 {X : SX} {x : Nat} {t : LS0} {st : List Value} {σ : SH} : exD X 201 501 (some (.ref x) :: t) st σ = exD X 201 502 (some (.ref x) :: t) (.ref x :: st) σ := g_aload_0 rfl
set_option maxRecDepth 100000 in
theorem a201_502 {X : SX} {c0 c1 c2 : Option Value} {x : Int32} {t : LS0} {st : List Value} {σ : SH} : exD X 201 502 (c0 :: c1 :: c2 :: some (.int x) :: t) st σ = exD X 201 503 (c0 :: c1 :: c2 :: some (.int x) :: t) (.int x :: st) σ := g_iload_3 rfl
set_option maxRecDepth 100000 in
theorem a201_503 {X : SX} {ls : LS0} {st : List Value} {σ : SH} : exD X 201 503 ls st σ = exD X 201 504 ls (.int 1 :: st) σ := g_iconst rfl
set_option maxRecDepth 100000 in
theorem a201_504 {X : SX} {ls : LS0} {st : List Value} {σ : SH} {x y : Int32} : exD X 201 504 ls (.int y :: .int x :: st) σ = exD X 201 505 ls (.int (x + y) :: st) σ := g_iadd rfl
set_option maxRecDepth 100000 in
theorem a201_505 {X : SX} {ls : LS0} {st : List Value} {I : Nat → Nat → Int32} {L : Nat → Nat → Int64} {b : Nat} {i : Int32} (hb : b < 4096) : exD X 201 505 ls (.int i :: .ref b :: st) (ms I L) = iaR (hk (ms I L) b) i (exD X 201 506 ls (.int (I b i.toNatClampNeg) :: st) (ms I L)) := g_iald rfl hb
set_option maxRecDepth 100000 in
theorem a201_506 {X : SX} {ls : LS0} {st : List Value} {I : Nat → Nat → Int32} {L : Nat → Nat → Int64} {w0 : Int32} {b : Nat} (hb : hk (ms I L) b = some (0, 10)) (h8 : cS st ≤ 8) : exD X 201 506 ls (.int w0 :: .ref b :: st) (ms I L) = cR (caD X 159 [.ref b, .int w0] (ms I L)) (fun w s => exD X 201 509 ls (psh w st) s) := g_cv rfl rfl rfl (Nat.le_of_ble_eq_true rfl) h8 hb
set_option maxRecDepth 100000 in
theorem a201_509 {X : SX} {ls : LS0} {st : List Value} {σ : SH} {x y : Int32} : exD X 201 509 ls (.int y :: .int x :: st) σ = if x = y then exD X 201 1251 ls st σ else exD X 201 512 ls st σ := g_if_icmp_eq rfl
set_option maxRecDepth 100000 in
theorem a201_512 {X : SX} {ls : LS0} {st : List Value} {σ : SH} : exD X 201 512 ls st σ = exD X 201 513 ls (.int 0 :: st) σ := g_iconst rfl
set_option maxRecDepth 100000 in
theorem a201_513 {X : SX} {ls : LS0} {σ : SH} {x : Int32} : exD X 201 513 ls [.int x] σ = if x = 0 ∨ x = 1 then some (some (.int x), σ) else none := g_zret rfl rfl
set_option maxRecDepth 100000 in
theorem a201_514 {X : SX} {c0 : Option Value} {x : Nat} {t : LS0} {st : List Value} {σ : SH} : exD X 201 514 (c0 :: some (.ref x) :: t) st σ = exD X 201 515 (c0 :: some (.ref x) :: t) (.ref x :: st) σ := g_aload_1 rfl
set_option maxRecDepth 100000 in
theorem a201_515 {X : SX} {x : Nat} {t : LS0} {st : List Value} {σ : SH} : exD X 201 515 (some (.ref x) :: t) st σ = exD X 201 516 (some (.ref x) :: t) (.ref x :: st) σ := g_aload_0 rfl
set_option maxRecDepth 100000 in
theorem a201_516 {X : SX} {c0 c1 c2 : Option Value} {x : Int32} {t : LS0} {st : List Value} {σ : SH} : exD X 201 516 (c0 :: c1 :: c2 :: some (.int x) :: t) st σ = exD X 201 517 (c0 :: c1 :: c2 :: some (.int x) :: t) (.int x :: st) σ := g_iload_3 rfl
set_option maxRecDepth 100000 in
theorem a201_517 {X : SX} {ls : LS0} {st : List Value} {σ : SH} : exD X 201 517 ls st σ = exD X 201 518 ls (.int 1 :: st) σ := g_iconst rfl
set_option maxRecDepth 100000 in
theorem a201_518 {X : SX} {ls : LS0} {st : List Value} {σ : SH} {x y : Int32} : exD X 201 518 ls (.int y :: .int x :: st) σ = exD X 201 519 ls (.int (x + y) :: st) σ := g_iadd rfl
set_option maxRecDepth 100000 in
theorem a201_519 {X : SX} {ls : LS0} {st : List Value} {I : Nat → Nat → Int32} {L : Nat → Nat → Int64} {b : Nat} {i : Int32} (hb : b < 4096) : exD X 201 519 ls (.int i :: .ref b :: st) (ms I L) = iaR (hk (ms I L) b) i (exD X 201 520 ls (.int (I b i.toNatClampNeg) :: st) (ms I L)) := g_iald rfl hb
set_option maxRecDepth 100000 in
theorem a201_520 {X : SX} {x : Nat} {t : LS0} {st : List Value} {σ : SH} : exD X 201 520 (some (.ref x) :: t) st σ = exD X 201 521 (some (.ref x) :: t) (.ref x :: st) σ := g_aload_0 rfl
set_option maxRecDepth 100000 in
theorem a201_521 {X : SX} {c0 c1 c2 : Option Value} {x : Int32} {t : LS0} {st : List Value} {σ : SH} : exD X 201 521 (c0 :: c1 :: c2 :: some (.int x) :: t) st σ = exD X 201 522 (c0 :: c1 :: c2 :: some (.int x) :: t) (.int x :: st) σ := g_iload_3 rfl
set_option maxRecDepth 100000 in
theorem a201_522 {X : SX} {ls : LS0} {st : List Value} {σ : SH} : exD X 201 522 ls st σ = exD X 201 523 ls (.int 2 :: st) σ := g_iconst rfl
set_option maxRecDepth 100000 in
theorem a201_523 {X : SX} {ls : LS0} {st : List Value} {σ : SH} {x y : Int32} : exD X 201 523 ls (.int y :: .int x :: st) σ = exD X 201 524 ls (.int (x + y) :: st) σ := g_iadd rfl
set_option maxRecDepth 100000 in
theorem a201_524 {X : SX} {ls : LS0} {st : List Value} {I : Nat → Nat → Int32} {L : Nat → Nat → Int64} {b : Nat} {i : Int32} (hb : b < 4096) : exD X 201 524 ls (.int i :: .ref b :: st) (ms I L) = iaR (hk (ms I L) b) i (exD X 201 525 ls (.int (I b i.toNatClampNeg) :: st) (ms I L)) := g_iald rfl hb
set_option maxRecDepth 100000 in
theorem a201_525 {X : SX} {ls : LS0} {st : List Value} {I : Nat → Nat → Int32} {L : Nat → Nat → Int64} {w0 : Int32} {w1 : Int32} {b : Nat} (hb : hk (ms I L) b = some (0, 9)) (h8 : cS st ≤ 8) : exD X 201 525 ls (.int w1 :: .int w0 :: .ref b :: st) (ms I L) = cR (caD X 84 [.ref b, .int w0, .int w1] (ms I L)) (fun w s => exD X 201 528 ls (psh w st) s) := g_cv rfl rfl rfl (Nat.le_of_ble_eq_true rfl) h8 hb
set_option maxRecDepth 100000 in
theorem a201_528 {X : SX} {c0 c1 : Option Value} {x : Nat} {t : LS0} {st : List Value} {σ : SH} : exD X 201 528 (c0 :: c1 :: some (.ref x) :: t) st σ = exD X 201 529 (c0 :: c1 :: some (.ref x) :: t) (.ref x :: st) σ := g_aload_2 rfl
set_option maxRecDepth 100000 in
theorem a201_529 {X : SX} {x : Nat} {t : LS0} {st : List Value} {σ : SH} : exD X 201 529 (some (.ref x) :: t) st σ = exD X 201 530 (some (.ref x) :: t) (.ref x :: st) σ := g_aload_0 rfl
set_option maxRecDepth 100000 in
theorem a201_530 {X : SX} {c0 c1 c2 : Option Value} {x : Int32} {t : LS0} {st : List Value} {σ : SH} : exD X 201 530 (c0 :: c1 :: c2 :: some (.int x) :: t) st σ = exD X 201 531 (c0 :: c1 :: c2 :: some (.int x) :: t) (.int x :: st) σ := g_iload_3 rfl
set_option maxRecDepth 100000 in
theorem a201_531 {X : SX} {ls : LS0} {st : List Value} {σ : SH} : exD X 201 531 ls st σ = exD X 201 532 ls (.int 1 :: st) σ := g_iconst rfl
set_option maxRecDepth 100000 in
theorem a201_532 {X : SX} {ls : LS0} {st : List Value} {σ : SH} {x y : Int32} : exD X 201 532 ls (.int y :: .int x :: st) σ = exD X 201 533 ls (.int (x + y) :: st) σ := g_iadd rfl
set_option maxRecDepth 100000 in
theorem a201_533 {X : SX} {ls : LS0} {st : List Value} {I : Nat → Nat → Int32} {L : Nat → Nat → Int64} {b : Nat} {i : Int32} (hb : b < 4096) : exD X 201 533 ls (.int i :: .ref b :: st) (ms I L) = iaR (hk (ms I L) b) i (exD X 201 534 ls (.int (I b i.toNatClampNeg) :: st) (ms I L)) := g_iald rfl hb
set_option maxRecDepth 100000 in
theorem a201_534 {X : SX} {x : Nat} {t : LS0} {st : List Value} {σ : SH} : exD X 201 534 (some (.ref x) :: t) st σ = exD X 201 535 (some (.ref x) :: t) (.ref x :: st) σ := g_aload_0 rfl
set_option maxRecDepth 100000 in
theorem a201_535 {X : SX} {c0 c1 c2 : Option Value} {x : Int32} {t : LS0} {st : List Value} {σ : SH} : exD X 201 535 (c0 :: c1 :: c2 :: some (.int x) :: t) st σ = exD X 201 536 (c0 :: c1 :: c2 :: some (.int x) :: t) (.int x :: st) σ := g_iload_3 rfl
set_option maxRecDepth 100000 in
theorem a201_536 {X : SX} {ls : LS0} {st : List Value} {σ : SH} : exD X 201 536 ls st σ = exD X 201 537 ls (.int 2 :: st) σ := g_iconst rfl
set_option maxRecDepth 100000 in
theorem a201_537 {X : SX} {ls : LS0} {st : List Value} {σ : SH} {x y : Int32} : exD X 201 537 ls (.int y :: .int x :: st) σ = exD X 201 538 ls (.int (x + y) :: st) σ := g_iadd rfl
set_option maxRecDepth 100000 in
theorem a201_538 {X : SX} {ls : LS0} {st : List Value} {I : Nat → Nat → Int32} {L : Nat → Nat → Int64} {b : Nat} {i : Int32} (hb : b < 4096) : exD X 201 538 ls (.int i :: .ref b :: st) (ms I L) = iaR (hk (ms I L) b) i (exD X 201 539 ls (.int (I b i.toNatClampNeg) :: st) (ms I L)) := g_iald rfl hb
set_option maxRecDepth 100000 in
theorem a201_539 {X : SX} {ls : LS0} {st : List Value} {I : Nat → Nat → Int32} {L : Nat → Nat → Int64} {w0 : Int32} {w1 : Int32} {b : Nat} (hb : hk (ms I L) b = some (0, 10)) (h8 : cS st ≤ 8) : exD X 201 539 ls (.int w1 :: .int w0 :: .ref b :: st) (ms I L) = cR (caD X 162 [.ref b, .int w0, .int w1] (ms I L)) (fun w s => exD X 201 542 ls (psh w st) s) := g_cv rfl rfl rfl (Nat.le_of_ble_eq_true rfl) h8 hb
set_option maxRecDepth 100000 in
theorem a201_542 {X : SX} {ls : LS0} {st : List Value} {σ : SH} {x y : Int32} : exD X 201 542 ls (.int y :: .int x :: st) σ = if x = y then exD X 201 1251 ls st σ else exD X 201 545 ls st σ := g_if_icmp_eq rfl
set_option maxRecDepth 100000 in
theorem a201_545 {X : SX} {ls : LS0} {st : List Value} {σ : SH} : exD X 201 545 ls st σ = exD X 201 546 ls (.int 0 :: st) σ := g_iconst rfl
set_option maxRecDepth 100000 in
theorem a201_546 {X : SX} {ls : LS0} {σ : SH} {x : Int32} : exD X 201 546 ls [.int x] σ = if x = 0 ∨ x = 1 then some (some (.int x), σ) else none := g_zret rfl rfl
set_option maxRecDepth 100000 in
theorem a201_547 {X : SX} {c0 : Option Value} {x : Nat} {t : LS0} {st : List Value} {σ : SH} : exD X 201 547 (c0 :: some (.ref x) :: t) st σ = exD X 201 548 (c0 :: some (.ref x) :: t) (.ref x :: st) σ := g_aload_1 rfl
set_option maxRecDepth 100000 in
theorem a201_548 {X : SX} {x : Nat} {t : LS0} {st : List Value} {σ : SH} : exD X 201 548 (some (.ref x) :: t) st σ = exD X 201 549 (some (.ref x) :: t) (.ref x :: st) σ := g_aload_0 rfl
set_option maxRecDepth 100000 in
theorem a201_549 {X : SX} {c0 c1 c2 : Option Value} {x : Int32} {t : LS0} {st : List Value} {σ : SH} : exD X 201 549 (c0 :: c1 :: c2 :: some (.int x) :: t) st σ = exD X 201 550 (c0 :: c1 :: c2 :: some (.int x) :: t) (.int x :: st) σ := g_iload_3 rfl
set_option maxRecDepth 100000 in
theorem a201_550 {X : SX} {ls : LS0} {st : List Value} {σ : SH} : exD X 201 550 ls st σ = exD X 201 551 ls (.int 1 :: st) σ := g_iconst rfl
set_option maxRecDepth 100000 in
theorem a201_551 {X : SX} {ls : LS0} {st : List Value} {σ : SH} {x y : Int32} : exD X 201 551 ls (.int y :: .int x :: st) σ = exD X 201 552 ls (.int (x + y) :: st) σ := g_iadd rfl
set_option maxRecDepth 100000 in
theorem a201_552 {X : SX} {ls : LS0} {st : List Value} {I : Nat → Nat → Int32} {L : Nat → Nat → Int64} {b : Nat} {i : Int32} (hb : b < 4096) : exD X 201 552 ls (.int i :: .ref b :: st) (ms I L) = iaR (hk (ms I L) b) i (exD X 201 553 ls (.int (I b i.toNatClampNeg) :: st) (ms I L)) := g_iald rfl hb
set_option maxRecDepth 100000 in
theorem a201_553 {X : SX} {ls : LS0} {st : List Value} {I : Nat → Nat → Int32} {L : Nat → Nat → Int64} {w0 : Int32} {b : Nat} (hb : hk (ms I L) b = some (0, 9)) (h8 : cS st ≤ 8) : exD X 201 553 ls (.int w0 :: .ref b :: st) (ms I L) = cR (caD X 85 [.ref b, .int w0] (ms I L)) (fun w s => exD X 201 556 ls (psh w st) s) := g_cv rfl rfl rfl (Nat.le_of_ble_eq_true rfl) h8 hb
set_option maxRecDepth 100000 in
theorem a201_556 {X : SX} {c0 c1 : Option Value} {x : Nat} {t : LS0} {st : List Value} {σ : SH} : exD X 201 556 (c0 :: c1 :: some (.ref x) :: t) st σ = exD X 201 557 (c0 :: c1 :: some (.ref x) :: t) (.ref x :: st) σ := g_aload_2 rfl
set_option maxRecDepth 100000 in
theorem a201_557 {X : SX} {x : Nat} {t : LS0} {st : List Value} {σ : SH} : exD X 201 557 (some (.ref x) :: t) st σ = exD X 201 558 (some (.ref x) :: t) (.ref x :: st) σ := g_aload_0 rfl
set_option maxRecDepth 100000 in
theorem a201_558 {X : SX} {c0 c1 c2 : Option Value} {x : Int32} {t : LS0} {st : List Value} {σ : SH} : exD X 201 558 (c0 :: c1 :: c2 :: some (.int x) :: t) st σ = exD X 201 559 (c0 :: c1 :: c2 :: some (.int x) :: t) (.int x :: st) σ := g_iload_3 rfl
set_option maxRecDepth 100000 in
theorem a201_559 {X : SX} {ls : LS0} {st : List Value} {σ : SH} : exD X 201 559 ls st σ = exD X 201 560 ls (.int 1 :: st) σ := g_iconst rfl
set_option maxRecDepth 100000 in
theorem a201_560 {X : SX} {ls : LS0} {st : List Value} {σ : SH} {x y : Int32} : exD X 201 560 ls (.int y :: .int x :: st) σ = exD X 201 561 ls (.int (x + y) :: st) σ := g_iadd rfl
set_option maxRecDepth 100000 in
theorem a201_561 {X : SX} {ls : LS0} {st : List Value} {I : Nat → Nat → Int32} {L : Nat → Nat → Int64} {b : Nat} {i : Int32} (hb : b < 4096) : exD X 201 561 ls (.int i :: .ref b :: st) (ms I L) = iaR (hk (ms I L) b) i (exD X 201 562 ls (.int (I b i.toNatClampNeg) :: st) (ms I L)) := g_iald rfl hb
set_option maxRecDepth 100000 in
theorem a201_562 {X : SX} {ls : LS0} {st : List Value} {I : Nat → Nat → Int32} {L : Nat → Nat → Int64} {w0 : Int32} {b : Nat} (hb : hk (ms I L) b = some (0, 10)) (h8 : cS st ≤ 8) : exD X 201 562 ls (.int w0 :: .ref b :: st) (ms I L) = cR (caD X 164 [.ref b, .int w0] (ms I L)) (fun w s => exD X 201 565 ls (psh w st) s) := g_cv rfl rfl rfl (Nat.le_of_ble_eq_true rfl) h8 hb
set_option maxRecDepth 100000 in
theorem a201_565 {X : SX} {ls : LS0} {st : List Value} {σ : SH} {x y : Int32} : exD X 201 565 ls (.int y :: .int x :: st) σ = if x = y then exD X 201 1251 ls st σ else exD X 201 568 ls st σ := g_if_icmp_eq rfl
set_option maxRecDepth 100000 in
theorem a201_568 {X : SX} {ls : LS0} {st : List Value} {σ : SH} : exD X 201 568 ls st σ = exD X 201 569 ls (.int 0 :: st) σ := g_iconst rfl
set_option maxRecDepth 100000 in
theorem a201_569 {X : SX} {ls : LS0} {σ : SH} {x : Int32} : exD X 201 569 ls [.int x] σ = if x = 0 ∨ x = 1 then some (some (.int x), σ) else none := g_zret rfl rfl
set_option maxRecDepth 100000 in
theorem a201_570 {X : SX} {c0 : Option Value} {x : Nat} {t : LS0} {st : List Value} {σ : SH} : exD X 201 570 (c0 :: some (.ref x) :: t) st σ = exD X 201 571 (c0 :: some (.ref x) :: t) (.ref x :: st) σ := g_aload_1 rfl
set_option maxRecDepth 100000 in
theorem a201_571 {X : SX} {x : Nat} {t : LS0} {st : List Value} {σ : SH} : exD X 201 571 (some (.ref x) :: t) st σ = exD X 201 572 (some (.ref x) :: t) (.ref x :: st) σ := g_aload_0 rfl
set_option maxRecDepth 100000 in
theorem a201_572 {X : SX} {c0 c1 c2 : Option Value} {x : Int32} {t : LS0} {st : List Value} {σ : SH} : exD X 201 572 (c0 :: c1 :: c2 :: some (.int x) :: t) st σ = exD X 201 573 (c0 :: c1 :: c2 :: some (.int x) :: t) (.int x :: st) σ := g_iload_3 rfl
set_option maxRecDepth 100000 in
theorem a201_573 {X : SX} {ls : LS0} {st : List Value} {σ : SH} : exD X 201 573 ls st σ = exD X 201 574 ls (.int 1 :: st) σ := g_iconst rfl
set_option maxRecDepth 100000 in
theorem a201_574 {X : SX} {ls : LS0} {st : List Value} {σ : SH} {x y : Int32} : exD X 201 574 ls (.int y :: .int x :: st) σ = exD X 201 575 ls (.int (x + y) :: st) σ := g_iadd rfl
set_option maxRecDepth 100000 in
theorem a201_575 {X : SX} {ls : LS0} {st : List Value} {I : Nat → Nat → Int32} {L : Nat → Nat → Int64} {b : Nat} {i : Int32} (hb : b < 4096) : exD X 201 575 ls (.int i :: .ref b :: st) (ms I L) = iaR (hk (ms I L) b) i (exD X 201 576 ls (.int (I b i.toNatClampNeg) :: st) (ms I L)) := g_iald rfl hb
set_option maxRecDepth 100000 in
theorem a201_576 {X : SX} {x : Nat} {t : LS0} {st : List Value} {σ : SH} : exD X 201 576 (some (.ref x) :: t) st σ = exD X 201 577 (some (.ref x) :: t) (.ref x :: st) σ := g_aload_0 rfl
set_option maxRecDepth 100000 in
theorem a201_577 {X : SX} {c0 c1 c2 : Option Value} {x : Int32} {t : LS0} {st : List Value} {σ : SH} : exD X 201 577 (c0 :: c1 :: c2 :: some (.int x) :: t) st σ = exD X 201 578 (c0 :: c1 :: c2 :: some (.int x) :: t) (.int x :: st) σ := g_iload_3 rfl
set_option maxRecDepth 100000 in
theorem a201_578 {X : SX} {ls : LS0} {st : List Value} {σ : SH} : exD X 201 578 ls st σ = exD X 201 579 ls (.int 2 :: st) σ := g_iconst rfl
set_option maxRecDepth 100000 in
theorem a201_579 {X : SX} {ls : LS0} {st : List Value} {σ : SH} {x y : Int32} : exD X 201 579 ls (.int y :: .int x :: st) σ = exD X 201 580 ls (.int (x + y) :: st) σ := g_iadd rfl
set_option maxRecDepth 100000 in
theorem a201_580 {X : SX} {ls : LS0} {st : List Value} {I : Nat → Nat → Int32} {L : Nat → Nat → Int64} {b : Nat} {i : Int32} (hb : b < 4096) : exD X 201 580 ls (.int i :: .ref b :: st) (ms I L) = iaR (hk (ms I L) b) i (exD X 201 581 ls (.int (I b i.toNatClampNeg) :: st) (ms I L)) := g_iald rfl hb
set_option maxRecDepth 100000 in
theorem a201_581 {X : SX} {ls : LS0} {st : List Value} {I : Nat → Nat → Int32} {L : Nat → Nat → Int64} {w0 : Int32} {w1 : Int32} {b : Nat} (hb : hk (ms I L) b = some (0, 9)) (h8 : cS st ≤ 8) : exD X 201 581 ls (.int w1 :: .int w0 :: .ref b :: st) (ms I L) = cR (caD X 86 [.ref b, .int w0, .int w1] (ms I L)) (fun w s => exD X 201 584 ls (psh w st) s) := g_cv rfl rfl rfl (Nat.le_of_ble_eq_true rfl) h8 hb
set_option maxRecDepth 100000 in
theorem a201_584 {X : SX} {c0 c1 : Option Value} {x : Nat} {t : LS0} {st : List Value} {σ : SH} : exD X 201 584 (c0 :: c1 :: some (.ref x) :: t) st σ = exD X 201 585 (c0 :: c1 :: some (.ref x) :: t) (.ref x :: st) σ := g_aload_2 rfl
set_option maxRecDepth 100000 in
theorem a201_585 {X : SX} {x : Nat} {t : LS0} {st : List Value} {σ : SH} : exD X 201 585 (some (.ref x) :: t) st σ = exD X 201 586 (some (.ref x) :: t) (.ref x :: st) σ := g_aload_0 rfl
set_option maxRecDepth 100000 in
theorem a201_586 {X : SX} {c0 c1 c2 : Option Value} {x : Int32} {t : LS0} {st : List Value} {σ : SH} : exD X 201 586 (c0 :: c1 :: c2 :: some (.int x) :: t) st σ = exD X 201 587 (c0 :: c1 :: c2 :: some (.int x) :: t) (.int x :: st) σ := g_iload_3 rfl
set_option maxRecDepth 100000 in
theorem a201_587 {X : SX} {ls : LS0} {st : List Value} {σ : SH} : exD X 201 587 ls st σ = exD X 201 588 ls (.int 1 :: st) σ := g_iconst rfl
set_option maxRecDepth 100000 in
theorem a201_588 {X : SX} {ls : LS0} {st : List Value} {σ : SH} {x y : Int32} : exD X 201 588 ls (.int y :: .int x :: st) σ = exD X 201 589 ls (.int (x + y) :: st) σ := g_iadd rfl
set_option maxRecDepth 100000 in
theorem a201_589 {X : SX} {ls : LS0} {st : List Value} {I : Nat → Nat → Int32} {L : Nat → Nat → Int64} {b : Nat} {i : Int32} (hb : b < 4096) : exD X 201 589 ls (.int i :: .ref b :: st) (ms I L) = iaR (hk (ms I L) b) i (exD X 201 590 ls (.int (I b i.toNatClampNeg) :: st) (ms I L)) := g_iald rfl hb
set_option maxRecDepth 100000 in
theorem a201_590 {X : SX} {x : Nat} {t : LS0} {st : List Value} {σ : SH} : exD X 201 590 (some (.ref x) :: t) st σ = exD X 201 591 (some (.ref x) :: t) (.ref x :: st) σ := g_aload_0 rfl
set_option maxRecDepth 100000 in
theorem a201_591 {X : SX} {c0 c1 c2 : Option Value} {x : Int32} {t : LS0} {st : List Value} {σ : SH} : exD X 201 591 (c0 :: c1 :: c2 :: some (.int x) :: t) st σ = exD X 201 592 (c0 :: c1 :: c2 :: some (.int x) :: t) (.int x :: st) σ := g_iload_3 rfl
set_option maxRecDepth 100000 in
theorem a201_592 {X : SX} {ls : LS0} {st : List Value} {σ : SH} : exD X 201 592 ls st σ = exD X 201 593 ls (.int 2 :: st) σ := g_iconst rfl
set_option maxRecDepth 100000 in
theorem a201_593 {X : SX} {ls : LS0} {st : List Value} {σ : SH} {x y : Int32} : exD X 201 593 ls (.int y :: .int x :: st) σ = exD X 201 594 ls (.int (x + y) :: st) σ := g_iadd rfl
set_option maxRecDepth 100000 in
theorem a201_594 {X : SX} {ls : LS0} {st : List Value} {I : Nat → Nat → Int32} {L : Nat → Nat → Int64} {b : Nat} {i : Int32} (hb : b < 4096) : exD X 201 594 ls (.int i :: .ref b :: st) (ms I L) = iaR (hk (ms I L) b) i (exD X 201 595 ls (.int (I b i.toNatClampNeg) :: st) (ms I L)) := g_iald rfl hb
set_option maxRecDepth 100000 in
theorem a201_595 {X : SX} {ls : LS0} {st : List Value} {I : Nat → Nat → Int32} {L : Nat → Nat → Int64} {w0 : Int32} {w1 : Int32} {b : Nat} (hb : hk (ms I L) b = some (0, 10)) (h8 : cS st ≤ 8) : exD X 201 595 ls (.int w1 :: .int w0 :: .ref b :: st) (ms I L) = cR (caD X 167 [.ref b, .int w0, .int w1] (ms I L)) (fun w s => exD X 201 598 ls (psh w st) s) := g_cv rfl rfl rfl (Nat.le_of_ble_eq_true rfl) h8 hb
set_option maxRecDepth 100000 in
theorem a201_598 {X : SX} {ls : LS0} {st : List Value} {σ : SH} {x y : Int32} : exD X 201 598 ls (.int y :: .int x :: st) σ = if x = y then exD X 201 1251 ls st σ else exD X 201 601 ls st σ := g_if_icmp_eq rfl
set_option maxRecDepth 100000 in
theorem a201_601 {X : SX} {ls : LS0} {st : List Value} {σ : SH} : exD X 201 601 ls st σ = exD X 201 602 ls (.int 0 :: st) σ := g_iconst rfl
set_option maxRecDepth 100000 in
theorem a201_602 {X : SX} {ls : LS0} {σ : SH} {x : Int32} : exD X 201 602 ls [.int x] σ = if x = 0 ∨ x = 1 then some (some (.int x), σ) else none := g_zret rfl rfl
set_option maxRecDepth 100000 in
theorem a201_603 {X : SX} {c0 : Option Value} {x : Nat} {t : LS0} {st : List Value} {σ : SH} : exD X 201 603 (c0 :: some (.ref x) :: t) st σ = exD X 201 604 (c0 :: some (.ref x) :: t) (.ref x :: st) σ := g_aload_1 rfl
set_option maxRecDepth 100000 in
theorem a201_604 {X : SX} {x : Nat} {t : LS0} {st : List Value} {σ : SH} : exD X 201 604 (some (.ref x) :: t) st σ = exD X 201 605 (some (.ref x) :: t) (.ref x :: st) σ := g_aload_0 rfl
set_option maxRecDepth 100000 in
theorem a201_605 {X : SX} {c0 c1 c2 : Option Value} {x : Int32} {t : LS0} {st : List Value} {σ : SH} : exD X 201 605 (c0 :: c1 :: c2 :: some (.int x) :: t) st σ = exD X 201 606 (c0 :: c1 :: c2 :: some (.int x) :: t) (.int x :: st) σ := g_iload_3 rfl
set_option maxRecDepth 100000 in
theorem a201_606 {X : SX} {ls : LS0} {st : List Value} {σ : SH} : exD X 201 606 ls st σ = exD X 201 607 ls (.int 1 :: st) σ := g_iconst rfl
set_option maxRecDepth 100000 in
theorem a201_607 {X : SX} {ls : LS0} {st : List Value} {σ : SH} {x y : Int32} : exD X 201 607 ls (.int y :: .int x :: st) σ = exD X 201 608 ls (.int (x + y) :: st) σ := g_iadd rfl
set_option maxRecDepth 100000 in
theorem a201_608 {X : SX} {ls : LS0} {st : List Value} {I : Nat → Nat → Int32} {L : Nat → Nat → Int64} {b : Nat} {i : Int32} (hb : b < 4096) : exD X 201 608 ls (.int i :: .ref b :: st) (ms I L) = iaR (hk (ms I L) b) i (exD X 201 609 ls (.int (I b i.toNatClampNeg) :: st) (ms I L)) := g_iald rfl hb
set_option maxRecDepth 100000 in
theorem a201_609 {X : SX} {x : Nat} {t : LS0} {st : List Value} {σ : SH} : exD X 201 609 (some (.ref x) :: t) st σ = exD X 201 610 (some (.ref x) :: t) (.ref x :: st) σ := g_aload_0 rfl
set_option maxRecDepth 100000 in
theorem a201_610 {X : SX} {c0 c1 c2 : Option Value} {x : Int32} {t : LS0} {st : List Value} {σ : SH} : exD X 201 610 (c0 :: c1 :: c2 :: some (.int x) :: t) st σ = exD X 201 611 (c0 :: c1 :: c2 :: some (.int x) :: t) (.int x :: st) σ := g_iload_3 rfl
set_option maxRecDepth 100000 in
theorem a201_611 {X : SX} {ls : LS0} {st : List Value} {σ : SH} : exD X 201 611 ls st σ = exD X 201 612 ls (.int 2 :: st) σ := g_iconst rfl
set_option maxRecDepth 100000 in
theorem a201_612 {X : SX} {ls : LS0} {st : List Value} {σ : SH} {x y : Int32} : exD X 201 612 ls (.int y :: .int x :: st) σ = exD X 201 613 ls (.int (x + y) :: st) σ := g_iadd rfl
set_option maxRecDepth 100000 in
theorem a201_613 {X : SX} {ls : LS0} {st : List Value} {I : Nat → Nat → Int32} {L : Nat → Nat → Int64} {b : Nat} {i : Int32} (hb : b < 4096) : exD X 201 613 ls (.int i :: .ref b :: st) (ms I L) = iaR (hk (ms I L) b) i (exD X 201 614 ls (.int (I b i.toNatClampNeg) :: st) (ms I L)) := g_iald rfl hb
set_option maxRecDepth 100000 in
theorem a201_614 {X : SX} {ls : LS0} {st : List Value} {I : Nat → Nat → Int32} {L : Nat → Nat → Int64} {w0 : Int32} {w1 : Int32} {b : Nat} (hb : hk (ms I L) b = some (0, 9)) (h8 : cS st ≤ 8) : exD X 201 614 ls (.int w1 :: .int w0 :: .ref b :: st) (ms I L) = cR (caD X 87 [.ref b, .int w0, .int w1] (ms I L)) (fun w s => exD X 201 617 ls (psh w st) s) := g_cv rfl rfl rfl (Nat.le_of_ble_eq_true rfl) h8 hb
set_option maxRecDepth 100000 in
theorem a201_617 {X : SX} {c0 c1 : Option Value} {x : Nat} {t : LS0} {st : List Value} {σ : SH} : exD X 201 617 (c0 :: c1 :: some (.ref x) :: t) st σ = exD X 201 618 (c0 :: c1 :: some (.ref x) :: t) (.ref x :: st) σ := g_aload_2 rfl
set_option maxRecDepth 100000 in
theorem a201_618 {X : SX} {x : Nat} {t : LS0} {st : List Value} {σ : SH} : exD X 201 618 (some (.ref x) :: t) st σ = exD X 201 619 (some (.ref x) :: t) (.ref x :: st) σ := g_aload_0 rfl
set_option maxRecDepth 100000 in
theorem a201_619 {X : SX} {c0 c1 c2 : Option Value} {x : Int32} {t : LS0} {st : List Value} {σ : SH} : exD X 201 619 (c0 :: c1 :: c2 :: some (.int x) :: t) st σ = exD X 201 620 (c0 :: c1 :: c2 :: some (.int x) :: t) (.int x :: st) σ := g_iload_3 rfl
set_option maxRecDepth 100000 in
theorem a201_620 {X : SX} {ls : LS0} {st : List Value} {σ : SH} : exD X 201 620 ls st σ = exD X 201 621 ls (.int 1 :: st) σ := g_iconst rfl
set_option maxRecDepth 100000 in
theorem a201_621 {X : SX} {ls : LS0} {st : List Value} {σ : SH} {x y : Int32} : exD X 201 621 ls (.int y :: .int x :: st) σ = exD X 201 622 ls (.int (x + y) :: st) σ := g_iadd rfl
set_option maxRecDepth 100000 in
theorem a201_622 {X : SX} {ls : LS0} {st : List Value} {I : Nat → Nat → Int32} {L : Nat → Nat → Int64} {b : Nat} {i : Int32} (hb : b < 4096) : exD X 201 622 ls (.int i :: .ref b :: st) (ms I L) = iaR (hk (ms I L) b) i (exD X 201 623 ls (.int (I b i.toNatClampNeg) :: st) (ms I L)) := g_iald rfl hb
set_option maxRecDepth 100000 in
theorem a201_623 {X : SX} {x : Nat} {t : LS0} {st : List Value} {σ : SH} : exD X 201 623 (some (.ref x) :: t) st σ = exD X 201 624 (some (.ref x) :: t) (.ref x :: st) σ := g_aload_0 rfl
set_option maxRecDepth 100000 in
theorem a201_624 {X : SX} {c0 c1 c2 : Option Value} {x : Int32} {t : LS0} {st : List Value} {σ : SH} : exD X 201 624 (c0 :: c1 :: c2 :: some (.int x) :: t) st σ = exD X 201 625 (c0 :: c1 :: c2 :: some (.int x) :: t) (.int x :: st) σ := g_iload_3 rfl
set_option maxRecDepth 100000 in
theorem a201_625 {X : SX} {ls : LS0} {st : List Value} {σ : SH} : exD X 201 625 ls st σ = exD X 201 626 ls (.int 2 :: st) σ := g_iconst rfl
set_option maxRecDepth 100000 in
theorem a201_626 {X : SX} {ls : LS0} {st : List Value} {σ : SH} {x y : Int32} : exD X 201 626 ls (.int y :: .int x :: st) σ = exD X 201 627 ls (.int (x + y) :: st) σ := g_iadd rfl
set_option maxRecDepth 100000 in
theorem a201_627 {X : SX} {ls : LS0} {st : List Value} {I : Nat → Nat → Int32} {L : Nat → Nat → Int64} {b : Nat} {i : Int32} (hb : b < 4096) : exD X 201 627 ls (.int i :: .ref b :: st) (ms I L) = iaR (hk (ms I L) b) i (exD X 201 628 ls (.int (I b i.toNatClampNeg) :: st) (ms I L)) := g_iald rfl hb
set_option maxRecDepth 100000 in
theorem a201_628 {X : SX} {ls : LS0} {st : List Value} {I : Nat → Nat → Int32} {L : Nat → Nat → Int64} {w0 : Int32} {w1 : Int32} {b : Nat} (hb : hk (ms I L) b = some (0, 10)) (h8 : cS st ≤ 8) : exD X 201 628 ls (.int w1 :: .int w0 :: .ref b :: st) (ms I L) = cR (caD X 169 [.ref b, .int w0, .int w1] (ms I L)) (fun w s => exD X 201 631 ls (psh w st) s) := g_cv rfl rfl rfl (Nat.le_of_ble_eq_true rfl) h8 hb
set_option maxRecDepth 100000 in
theorem a201_631 {X : SX} {ls : LS0} {st : List Value} {σ : SH} {x y : Int32} : exD X 201 631 ls (.int y :: .int x :: st) σ = if x = y then exD X 201 1251 ls st σ else exD X 201 634 ls st σ := g_if_icmp_eq rfl
set_option maxRecDepth 100000 in
theorem a201_634 {X : SX} {ls : LS0} {st : List Value} {σ : SH} : exD X 201 634 ls st σ = exD X 201 635 ls (.int 0 :: st) σ := g_iconst rfl
set_option maxRecDepth 100000 in
theorem a201_635 {X : SX} {ls : LS0} {σ : SH} {x : Int32} : exD X 201 635 ls [.int x] σ = if x = 0 ∨ x = 1 then some (some (.int x), σ) else none := g_zret rfl rfl
set_option maxRecDepth 100000 in
theorem a201_636 {X : SX} {c0 : Option Value} {x : Nat} {t : LS0} {st : List Value} {σ : SH} : exD X 201 636 (c0 :: some (.ref x) :: t) st σ = exD X 201 637 (c0 :: some (.ref x) :: t) (.ref x :: st) σ := g_aload_1 rfl
set_option maxRecDepth 100000 in
theorem a201_637 {X : SX} {x : Nat} {t : LS0} {st : List Value} {σ : SH} : exD X 201 637 (some (.ref x) :: t) st σ = exD X 201 638 (some (.ref x) :: t) (.ref x :: st) σ := g_aload_0 rfl
set_option maxRecDepth 100000 in
theorem a201_638 {X : SX} {c0 c1 c2 : Option Value} {x : Int32} {t : LS0} {st : List Value} {σ : SH} : exD X 201 638 (c0 :: c1 :: c2 :: some (.int x) :: t) st σ = exD X 201 639 (c0 :: c1 :: c2 :: some (.int x) :: t) (.int x :: st) σ := g_iload_3 rfl
set_option maxRecDepth 100000 in
theorem a201_639 {X : SX} {ls : LS0} {st : List Value} {σ : SH} : exD X 201 639 ls st σ = exD X 201 640 ls (.int 1 :: st) σ := g_iconst rfl
set_option maxRecDepth 100000 in
theorem a201_640 {X : SX} {ls : LS0} {st : List Value} {σ : SH} {x y : Int32} : exD X 201 640 ls (.int y :: .int x :: st) σ = exD X 201 641 ls (.int (x + y) :: st) σ := g_iadd rfl
set_option maxRecDepth 100000 in
theorem a201_641 {X : SX} {ls : LS0} {st : List Value} {I : Nat → Nat → Int32} {L : Nat → Nat → Int64} {b : Nat} {i : Int32} (hb : b < 4096) : exD X 201 641 ls (.int i :: .ref b :: st) (ms I L) = iaR (hk (ms I L) b) i (exD X 201 642 ls (.int (I b i.toNatClampNeg) :: st) (ms I L)) := g_iald rfl hb
set_option maxRecDepth 100000 in
theorem a201_642 {X : SX} {x : Nat} {t : LS0} {st : List Value} {σ : SH} : exD X 201 642 (some (.ref x) :: t) st σ = exD X 201 643 (some (.ref x) :: t) (.ref x :: st) σ := g_aload_0 rfl
set_option maxRecDepth 100000 in
theorem a201_643 {X : SX} {c0 c1 c2 : Option Value} {x : Int32} {t : LS0} {st : List Value} {σ : SH} : exD X 201 643 (c0 :: c1 :: c2 :: some (.int x) :: t) st σ = exD X 201 644 (c0 :: c1 :: c2 :: some (.int x) :: t) (.int x :: st) σ := g_iload_3 rfl
set_option maxRecDepth 100000 in
theorem a201_644 {X : SX} {ls : LS0} {st : List Value} {σ : SH} : exD X 201 644 ls st σ = exD X 201 645 ls (.int 2 :: st) σ := g_iconst rfl
set_option maxRecDepth 100000 in
theorem a201_645 {X : SX} {ls : LS0} {st : List Value} {σ : SH} {x y : Int32} : exD X 201 645 ls (.int y :: .int x :: st) σ = exD X 201 646 ls (.int (x + y) :: st) σ := g_iadd rfl
set_option maxRecDepth 100000 in
theorem a201_646 {X : SX} {ls : LS0} {st : List Value} {I : Nat → Nat → Int32} {L : Nat → Nat → Int64} {b : Nat} {i : Int32} (hb : b < 4096) : exD X 201 646 ls (.int i :: .ref b :: st) (ms I L) = iaR (hk (ms I L) b) i (exD X 201 647 ls (.int (I b i.toNatClampNeg) :: st) (ms I L)) := g_iald rfl hb
set_option maxRecDepth 100000 in
theorem a201_647 {X : SX} {ls : LS0} {st : List Value} {I : Nat → Nat → Int32} {L : Nat → Nat → Int64} {w0 : Int32} {w1 : Int32} {b : Nat} (hb : hk (ms I L) b = some (0, 9)) (h8 : cS st ≤ 8) : exD X 201 647 ls (.int w1 :: .int w0 :: .ref b :: st) (ms I L) = cR (caD X 88 [.ref b, .int w0, .int w1] (ms I L)) (fun w s => exD X 201 650 ls (psh w st) s) := g_cv rfl rfl rfl (Nat.le_of_ble_eq_true rfl) h8 hb
set_option maxRecDepth 100000 in
theorem a201_650 {X : SX} {c0 c1 : Option Value} {x : Nat} {t : LS0} {st : List Value} {σ : SH} : exD X 201 650 (c0 :: c1 :: some (.ref x) :: t) st σ = exD X 201 651 (c0 :: c1 :: some (.ref x) :: t) (.ref x :: st) σ := g_aload_2 rfl
set_option maxRecDepth 100000 in
theorem a201_651 {X : SX} {x : Nat} {t : LS0} {st : List Value} {σ : SH} : exD X 201 651 (some (.ref x) :: t) st σ = exD X 201 652 (some (.ref x) :: t) (.ref x :: st) σ := g_aload_0 rfl
set_option maxRecDepth 100000 in
theorem a201_652 {X : SX} {c0 c1 c2 : Option Value} {x : Int32} {t : LS0} {st : List Value} {σ : SH} : exD X 201 652 (c0 :: c1 :: c2 :: some (.int x) :: t) st σ = exD X 201 653 (c0 :: c1 :: c2 :: some (.int x) :: t) (.int x :: st) σ := g_iload_3 rfl
set_option maxRecDepth 100000 in
theorem a201_653 {X : SX} {ls : LS0} {st : List Value} {σ : SH} : exD X 201 653 ls st σ = exD X 201 654 ls (.int 1 :: st) σ := g_iconst rfl
set_option maxRecDepth 100000 in
theorem a201_654 {X : SX} {ls : LS0} {st : List Value} {σ : SH} {x y : Int32} : exD X 201 654 ls (.int y :: .int x :: st) σ = exD X 201 655 ls (.int (x + y) :: st) σ := g_iadd rfl
set_option maxRecDepth 100000 in
theorem a201_655 {X : SX} {ls : LS0} {st : List Value} {I : Nat → Nat → Int32} {L : Nat → Nat → Int64} {b : Nat} {i : Int32} (hb : b < 4096) : exD X 201 655 ls (.int i :: .ref b :: st) (ms I L) = iaR (hk (ms I L) b) i (exD X 201 656 ls (.int (I b i.toNatClampNeg) :: st) (ms I L)) := g_iald rfl hb
set_option maxRecDepth 100000 in
theorem a201_656 {X : SX} {x : Nat} {t : LS0} {st : List Value} {σ : SH} : exD X 201 656 (some (.ref x) :: t) st σ = exD X 201 657 (some (.ref x) :: t) (.ref x :: st) σ := g_aload_0 rfl
set_option maxRecDepth 100000 in
theorem a201_657 {X : SX} {c0 c1 c2 : Option Value} {x : Int32} {t : LS0} {st : List Value} {σ : SH} : exD X 201 657 (c0 :: c1 :: c2 :: some (.int x) :: t) st σ = exD X 201 658 (c0 :: c1 :: c2 :: some (.int x) :: t) (.int x :: st) σ := g_iload_3 rfl
set_option maxRecDepth 100000 in
theorem a201_658 {X : SX} {ls : LS0} {st : List Value} {σ : SH} : exD X 201 658 ls st σ = exD X 201 659 ls (.int 2 :: st) σ := g_iconst rfl
set_option maxRecDepth 100000 in
theorem a201_659 {X : SX} {ls : LS0} {st : List Value} {σ : SH} {x y : Int32} : exD X 201 659 ls (.int y :: .int x :: st) σ = exD X 201 660 ls (.int (x + y) :: st) σ := g_iadd rfl
set_option maxRecDepth 100000 in
theorem a201_660 {X : SX} {ls : LS0} {st : List Value} {I : Nat → Nat → Int32} {L : Nat → Nat → Int64} {b : Nat} {i : Int32} (hb : b < 4096) : exD X 201 660 ls (.int i :: .ref b :: st) (ms I L) = iaR (hk (ms I L) b) i (exD X 201 661 ls (.int (I b i.toNatClampNeg) :: st) (ms I L)) := g_iald rfl hb
set_option maxRecDepth 100000 in
theorem a201_661 {X : SX} {ls : LS0} {st : List Value} {I : Nat → Nat → Int32} {L : Nat → Nat → Int64} {w0 : Int32} {w1 : Int32} {b : Nat} (hb : hk (ms I L) b = some (0, 10)) (h8 : cS st ≤ 8) : exD X 201 661 ls (.int w1 :: .int w0 :: .ref b :: st) (ms I L) = cR (caD X 172 [.ref b, .int w0, .int w1] (ms I L)) (fun w s => exD X 201 664 ls (psh w st) s) := g_cv rfl rfl rfl (Nat.le_of_ble_eq_true rfl) h8 hb
set_option maxRecDepth 100000 in
theorem a201_664 {X : SX} {ls : LS0} {st : List Value} {σ : SH} {x y : Int32} : exD X 201 664 ls (.int y :: .int x :: st) σ = if x = y then exD X 201 1251 ls st σ else exD X 201 667 ls st σ := g_if_icmp_eq rfl
set_option maxRecDepth 100000 in
theorem a201_667 {X : SX} {ls : LS0} {st : List Value} {σ : SH} : exD X 201 667 ls st σ = exD X 201 668 ls (.int 0 :: st) σ := g_iconst rfl
set_option maxRecDepth 100000 in
theorem a201_668 {X : SX} {ls : LS0} {σ : SH} {x : Int32} : exD X 201 668 ls [.int x] σ = if x = 0 ∨ x = 1 then some (some (.int x), σ) else none := g_zret rfl rfl
set_option maxRecDepth 100000 in
theorem a201_669 {X : SX} {c0 : Option Value} {x : Nat} {t : LS0} {st : List Value} {σ : SH} : exD X 201 669 (c0 :: some (.ref x) :: t) st σ = exD X 201 670 (c0 :: some (.ref x) :: t) (.ref x :: st) σ := g_aload_1 rfl
set_option maxRecDepth 100000 in
theorem a201_670 {X : SX} {ls : LS0} {st : List Value} {I : Nat → Nat → Int32} {L : Nat → Nat → Int64} {b : Nat} (hb : hk (ms I L) b = some (0, 9)) (h8 : cS st ≤ 8) : exD X 201 670 ls (.ref b :: st) (ms I L) = cR (caD X 89 [.ref b] (ms I L)) (fun w s => exD X 201 673 ls (psh w st) s) := g_cv rfl rfl rfl (Nat.le_of_ble_eq_true rfl) h8 hb
set_option maxRecDepth 100000 in
theorem a201_673 {X : SX} {c0 c1 : Option Value} {x : Nat} {t : LS0} {st : List Value} {σ : SH} : exD X 201 673 (c0 :: c1 :: some (.ref x) :: t) st σ = exD X 201 674 (c0 :: c1 :: some (.ref x) :: t) (.ref x :: st) σ := g_aload_2 rfl
set_option maxRecDepth 100000 in
theorem a201_674 {X : SX} {ls : LS0} {st : List Value} {I : Nat → Nat → Int32} {L : Nat → Nat → Int64} {b : Nat} (hb : hk (ms I L) b = some (0, 10)) (h8 : cS st ≤ 8) : exD X 201 674 ls (.ref b :: st) (ms I L) = cR (caD X 173 [.ref b] (ms I L)) (fun w s => exD X 201 677 ls (psh w st) s) := g_cv rfl rfl rfl (Nat.le_of_ble_eq_true rfl) h8 hb
set_option maxRecDepth 100000 in
theorem a201_677 {X : SX} {ls : LS0} {st : List Value} {σ : SH} {x y : Int32} : exD X 201 677 ls (.int y :: .int x :: st) σ = if x = y then exD X 201 1251 ls st σ else exD X 201 680 ls st σ := g_if_icmp_eq rfl
set_option maxRecDepth 100000 in
theorem a201_680 {X : SX} {ls : LS0} {st : List Value} {σ : SH} : exD X 201 680 ls st σ = exD X 201 681 ls (.int 0 :: st) σ := g_iconst rfl
set_option maxRecDepth 100000 in
theorem a201_681 {X : SX} {ls : LS0} {σ : SH} {x : Int32} : exD X 201 681 ls [.int x] σ = if x = 0 ∨ x = 1 then some (some (.int x), σ) else none := g_zret rfl rfl
set_option maxRecDepth 100000 in
theorem a201_682 {X : SX} {c0 : Option Value} {x : Nat} {t : LS0} {st : List Value} {σ : SH} : exD X 201 682 (c0 :: some (.ref x) :: t) st σ = exD X 201 683 (c0 :: some (.ref x) :: t) (.ref x :: st) σ := g_aload_1 rfl
set_option maxRecDepth 100000 in
theorem a201_683 {X : SX} {ls : LS0} {st : List Value} {I : Nat → Nat → Int32} {L : Nat → Nat → Int64} {b : Nat} (hb : hk (ms I L) b = some (0, 9)) (h8 : cS st ≤ 8) : exD X 201 683 ls (.ref b :: st) (ms I L) = cR (caD X 90 [.ref b] (ms I L)) (fun w s => exD X 201 686 ls (psh w st) s) := g_cv rfl rfl rfl (Nat.le_of_ble_eq_true rfl) h8 hb
set_option maxRecDepth 100000 in
theorem a201_686 {X : SX} {c0 c1 : Option Value} {x : Nat} {t : LS0} {st : List Value} {σ : SH} : exD X 201 686 (c0 :: c1 :: some (.ref x) :: t) st σ = exD X 201 687 (c0 :: c1 :: some (.ref x) :: t) (.ref x :: st) σ := g_aload_2 rfl
set_option maxRecDepth 100000 in
theorem a201_687 {X : SX} {ls : LS0} {st : List Value} {I : Nat → Nat → Int32} {L : Nat → Nat → Int64} {b : Nat} (hb : hk (ms I L) b = some (0, 10)) (h8 : cS st ≤ 8) : exD X 201 687 ls (.ref b :: st) (ms I L) = cR (caD X 174 [.ref b] (ms I L)) (fun w s => exD X 201 690 ls (psh w st) s) := g_cv rfl rfl rfl (Nat.le_of_ble_eq_true rfl) h8 hb
set_option maxRecDepth 100000 in
theorem a201_690 {X : SX} {ls : LS0} {st : List Value} {σ : SH} {x y : Int32} : exD X 201 690 ls (.int y :: .int x :: st) σ = if x = y then exD X 201 1251 ls st σ else exD X 201 693 ls st σ := g_if_icmp_eq rfl
set_option maxRecDepth 100000 in
theorem a201_693 {X : SX} {ls : LS0} {st : List Value} {σ : SH} : exD X 201 693 ls st σ = exD X 201 694 ls (.int 0 :: st) σ := g_iconst rfl
set_option maxRecDepth 100000 in
theorem a201_694 {X : SX} {ls : LS0} {σ : SH} {x : Int32} : exD X 201 694 ls [.int x] σ = if x = 0 ∨ x = 1 then some (some (.int x), σ) else none := g_zret rfl rfl
set_option maxRecDepth 100000 in
theorem a201_695 {X : SX} {c0 : Option Value} {x : Nat} {t : LS0} {st : List Value} {σ : SH} : exD X 201 695 (c0 :: some (.ref x) :: t) st σ = exD X 201 696 (c0 :: some (.ref x) :: t) (.ref x :: st) σ := g_aload_1 rfl
set_option maxRecDepth 100000 in
theorem a201_696 {X : SX} {x : Nat} {t : LS0} {st : List Value} {σ : SH} : exD X 201 696 (some (.ref x) :: t) st σ = exD X 201 697 (some (.ref x) :: t) (.ref x :: st) σ := g_aload_0 rfl
set_option maxRecDepth 100000 in
theorem a201_697 {X : SX} {c0 c1 c2 : Option Value} {x : Int32} {t : LS0} {st : List Value} {σ : SH} : exD X 201 697 (c0 :: c1 :: c2 :: some (.int x) :: t) st σ = exD X 201 698 (c0 :: c1 :: c2 :: some (.int x) :: t) (.int x :: st) σ := g_iload_3 rfl
set_option maxRecDepth 100000 in
theorem a201_698 {X : SX} {ls : LS0} {st : List Value} {σ : SH} : exD X 201 698 ls st σ = exD X 201 699 ls (.int 1 :: st) σ := g_iconst rfl
set_option maxRecDepth 100000 in
theorem a201_699 {X : SX} {ls : LS0} {st : List Value} {σ : SH} {x y : Int32} : exD X 201 699 ls (.int y :: .int x :: st) σ = exD X 201 700 ls (.int (x + y) :: st) σ := g_iadd rfl
set_option maxRecDepth 100000 in
theorem a201_700 {X : SX} {ls : LS0} {st : List Value} {I : Nat → Nat → Int32} {L : Nat → Nat → Int64} {b : Nat} {i : Int32} (hb : b < 4096) : exD X 201 700 ls (.int i :: .ref b :: st) (ms I L) = iaR (hk (ms I L) b) i (exD X 201 701 ls (.int (I b i.toNatClampNeg) :: st) (ms I L)) := g_iald rfl hb
set_option maxRecDepth 100000 in
theorem a201_701 {X : SX} {x : Nat} {t : LS0} {st : List Value} {σ : SH} : exD X 201 701 (some (.ref x) :: t) st σ = exD X 201 702 (some (.ref x) :: t) (.ref x :: st) σ := g_aload_0 rfl
set_option maxRecDepth 100000 in
theorem a201_702 {X : SX} {c0 c1 c2 : Option Value} {x : Int32} {t : LS0} {st : List Value} {σ : SH} : exD X 201 702 (c0 :: c1 :: c2 :: some (.int x) :: t) st σ = exD X 201 703 (c0 :: c1 :: c2 :: some (.int x) :: t) (.int x :: st) σ := g_iload_3 rfl
set_option maxRecDepth 100000 in
theorem a201_703 {X : SX} {ls : LS0} {st : List Value} {σ : SH} : exD X 201 703 ls st σ = exD X 201 704 ls (.int 2 :: st) σ := g_iconst rfl
set_option maxRecDepth 100000 in
theorem a201_704 {X : SX} {ls : LS0} {st : List Value} {σ : SH} {x y : Int32} : exD X 201 704 ls (.int y :: .int x :: st) σ = exD X 201 705 ls (.int (x + y) :: st) σ := g_iadd rfl
set_option maxRecDepth 100000 in
theorem a201_705 {X : SX} {ls : LS0} {st : List Value} {I : Nat → Nat → Int32} {L : Nat → Nat → Int64} {b : Nat} {i : Int32} (hb : b < 4096) : exD X 201 705 ls (.int i :: .ref b :: st) (ms I L) = iaR (hk (ms I L) b) i (exD X 201 706 ls (.int (I b i.toNatClampNeg) :: st) (ms I L)) := g_iald rfl hb
set_option maxRecDepth 100000 in
theorem a201_706 {X : SX} {x : Nat} {t : LS0} {st : List Value} {σ : SH} : exD X 201 706 (some (.ref x) :: t) st σ = exD X 201 707 (some (.ref x) :: t) (.ref x :: st) σ := g_aload_0 rfl
set_option maxRecDepth 100000 in
theorem a201_707 {X : SX} {c0 c1 c2 : Option Value} {x : Int32} {t : LS0} {st : List Value} {σ : SH} : exD X 201 707 (c0 :: c1 :: c2 :: some (.int x) :: t) st σ = exD X 201 708 (c0 :: c1 :: c2 :: some (.int x) :: t) (.int x :: st) σ := g_iload_3 rfl
set_option maxRecDepth 100000 in
theorem a201_708 {X : SX} {ls : LS0} {st : List Value} {σ : SH} : exD X 201 708 ls st σ = exD X 201 709 ls (.int 3 :: st) σ := g_iconst rfl
set_option maxRecDepth 100000 in
theorem a201_709 {X : SX} {ls : LS0} {st : List Value} {σ : SH} {x y : Int32} : exD X 201 709 ls (.int y :: .int x :: st) σ = exD X 201 710 ls (.int (x + y) :: st) σ := g_iadd rfl
set_option maxRecDepth 100000 in
theorem a201_710 {X : SX} {ls : LS0} {st : List Value} {I : Nat → Nat → Int32} {L : Nat → Nat → Int64} {b : Nat} {i : Int32} (hb : b < 4096) : exD X 201 710 ls (.int i :: .ref b :: st) (ms I L) = iaR (hk (ms I L) b) i (exD X 201 711 ls (.int (I b i.toNatClampNeg) :: st) (ms I L)) := g_iald rfl hb
set_option maxRecDepth 100000 in
theorem a201_711 {X : SX} {ls : LS0} {st : List Value} {I : Nat → Nat → Int32} {L : Nat → Nat → Int64} {w0 : Int32} {w1 : Int32} {w2 : Int32} {b : Nat} (hb : hk (ms I L) b = some (0, 9)) (h8 : cS st ≤ 8) : exD X 201 711 ls (.int w2 :: .int w1 :: .int w0 :: .ref b :: st) (ms I L) = cR (caD X 91 [.ref b, .int w0, .int w1, .int w2] (ms I L)) (fun w s => exD X 201 714 ls (psh w st) s) := g_cv rfl rfl rfl (Nat.le_of_ble_eq_true rfl) h8 hb
set_option maxRecDepth 100000 in
theorem a201_714 {X : SX} {c0 c1 : Option Value} {x : Nat} {t : LS0} {st : List Value} {σ : SH} : exD X 201 714 (c0 :: c1 :: some (.ref x) :: t) st σ = exD X 201 715 (c0 :: c1 :: some (.ref x) :: t) (.ref x :: st) σ := g_aload_2 rfl
set_option maxRecDepth 100000 in
theorem a201_715 {X : SX} {x : Nat} {t : LS0} {st : List Value} {σ : SH} : exD X 201 715 (some (.ref x) :: t) st σ = exD X 201 716 (some (.ref x) :: t) (.ref x :: st) σ := g_aload_0 rfl
set_option maxRecDepth 100000 in
theorem a201_716 {X : SX} {c0 c1 c2 : Option Value} {x : Int32} {t : LS0} {st : List Value} {σ : SH} : exD X 201 716 (c0 :: c1 :: c2 :: some (.int x) :: t) st σ = exD X 201 717 (c0 :: c1 :: c2 :: some (.int x) :: t) (.int x :: st) σ := g_iload_3 rfl
set_option maxRecDepth 100000 in
theorem a201_717 {X : SX} {ls : LS0} {st : List Value} {σ : SH} : exD X 201 717 ls st σ = exD X 201 718 ls (.int 1 :: st) σ := g_iconst rfl
set_option maxRecDepth 100000 in
theorem a201_718 {X : SX} {ls : LS0} {st : List Value} {σ : SH} {x y : Int32} : exD X 201 718 ls (.int y :: .int x :: st) σ = exD X 201 719 ls (.int (x + y) :: st) σ := g_iadd rfl
set_option maxRecDepth 100000 in
theorem a201_719 {X : SX} {ls : LS0} {st : List Value} {I : Nat → Nat → Int32} {L : Nat → Nat → Int64} {b : Nat} {i : Int32} (hb : b < 4096) : exD X 201 719 ls (.int i :: .ref b :: st) (ms I L) = iaR (hk (ms I L) b) i (exD X 201 720 ls (.int (I b i.toNatClampNeg) :: st) (ms I L)) := g_iald rfl hb
set_option maxRecDepth 100000 in
theorem a201_720 {X : SX} {x : Nat} {t : LS0} {st : List Value} {σ : SH} : exD X 201 720 (some (.ref x) :: t) st σ = exD X 201 721 (some (.ref x) :: t) (.ref x :: st) σ := g_aload_0 rfl
set_option maxRecDepth 100000 in
theorem a201_721 {X : SX} {c0 c1 c2 : Option Value} {x : Int32} {t : LS0} {st : List Value} {σ : SH} : exD X 201 721 (c0 :: c1 :: c2 :: some (.int x) :: t) st σ = exD X 201 722 (c0 :: c1 :: c2 :: some (.int x) :: t) (.int x :: st) σ := g_iload_3 rfl
set_option maxRecDepth 100000 in
theorem a201_722 {X : SX} {ls : LS0} {st : List Value} {σ : SH} : exD X 201 722 ls st σ = exD X 201 723 ls (.int 2 :: st) σ := g_iconst rfl
set_option maxRecDepth 100000 in
theorem a201_723 {X : SX} {ls : LS0} {st : List Value} {σ : SH} {x y : Int32} : exD X 201 723 ls (.int y :: .int x :: st) σ = exD X 201 724 ls (.int (x + y) :: st) σ := g_iadd rfl
set_option maxRecDepth 100000 in
theorem a201_724 {X : SX} {ls : LS0} {st : List Value} {I : Nat → Nat → Int32} {L : Nat → Nat → Int64} {b : Nat} {i : Int32} (hb : b < 4096) : exD X 201 724 ls (.int i :: .ref b :: st) (ms I L) = iaR (hk (ms I L) b) i (exD X 201 725 ls (.int (I b i.toNatClampNeg) :: st) (ms I L)) := g_iald rfl hb
set_option maxRecDepth 100000 in
theorem a201_725 {X : SX} {x : Nat} {t : LS0} {st : List Value} {σ : SH} : exD X 201 725 (some (.ref x) :: t) st σ = exD X 201 726 (some (.ref x) :: t) (.ref x :: st) σ := g_aload_0 rfl
set_option maxRecDepth 100000 in
theorem a201_726 {X : SX} {c0 c1 c2 : Option Value} {x : Int32} {t : LS0} {st : List Value} {σ : SH} : exD X 201 726 (c0 :: c1 :: c2 :: some (.int x) :: t) st σ = exD X 201 727 (c0 :: c1 :: c2 :: some (.int x) :: t) (.int x :: st) σ := g_iload_3 rfl
set_option maxRecDepth 100000 in
theorem a201_727 {X : SX} {ls : LS0} {st : List Value} {σ : SH} : exD X 201 727 ls st σ = exD X 201 728 ls (.int 3 :: st) σ := g_iconst rfl
set_option maxRecDepth 100000 in
theorem a201_728 {X : SX} {ls : LS0} {st : List Value} {σ : SH} {x y : Int32} : exD X 201 728 ls (.int y :: .int x :: st) σ = exD X 201 729 ls (.int (x + y) :: st) σ := g_iadd rfl
set_option maxRecDepth 100000 in
theorem a201_729 {X : SX} {ls : LS0} {st : List Value} {I : Nat → Nat → Int32} {L : Nat → Nat → Int64} {b : Nat} {i : Int32} (hb : b < 4096) : exD X 201 729 ls (.int i :: .ref b :: st) (ms I L) = iaR (hk (ms I L) b) i (exD X 201 730 ls (.int (I b i.toNatClampNeg) :: st) (ms I L)) := g_iald rfl hb
set_option maxRecDepth 100000 in
theorem a201_730 {X : SX} {ls : LS0} {st : List Value} {I : Nat → Nat → Int32} {L : Nat → Nat → Int64} {w0 : Int32} {w1 : Int32} {w2 : Int32} {b : Nat} (hb : hk (ms I L) b = some (0, 10)) (h8 : cS st ≤ 8) : exD X 201 730 ls (.int w2 :: .int w1 :: .int w0 :: .ref b :: st) (ms I L) = cR (caD X 175 [.ref b, .int w0, .int w1, .int w2] (ms I L)) (fun w s => exD X 201 733 ls (psh w st) s) := g_cv rfl rfl rfl (Nat.le_of_ble_eq_true rfl) h8 hb
set_option maxRecDepth 100000 in
theorem a201_733 {X : SX} {ls : LS0} {st : List Value} {σ : SH} {x y : Int32} : exD X 201 733 ls (.int y :: .int x :: st) σ = if x = y then exD X 201 1251 ls st σ else exD X 201 736 ls st σ := g_if_icmp_eq rfl
set_option maxRecDepth 100000 in
theorem a201_736 {X : SX} {ls : LS0} {st : List Value} {σ : SH} : exD X 201 736 ls st σ = exD X 201 737 ls (.int 0 :: st) σ := g_iconst rfl
set_option maxRecDepth 100000 in
theorem a201_737 {X : SX} {ls : LS0} {σ : SH} {x : Int32} : exD X 201 737 ls [.int x] σ = if x = 0 ∨ x = 1 then some (some (.int x), σ) else none := g_zret rfl rfl
set_option maxRecDepth 100000 in
theorem a201_738 {X : SX} {c0 : Option Value} {x : Nat} {t : LS0} {st : List Value} {σ : SH} : exD X 201 738 (c0 :: some (.ref x) :: t) st σ = exD X 201 739 (c0 :: some (.ref x) :: t) (.ref x :: st) σ := g_aload_1 rfl
set_option maxRecDepth 100000 in
theorem a201_739 {X : SX} {x : Nat} {t : LS0} {st : List Value} {σ : SH} : exD X 201 739 (some (.ref x) :: t) st σ = exD X 201 740 (some (.ref x) :: t) (.ref x :: st) σ := g_aload_0 rfl
set_option maxRecDepth 100000 in
theorem a201_740 {X : SX} {c0 c1 c2 : Option Value} {x : Int32} {t : LS0} {st : List Value} {σ : SH} : exD X 201 740 (c0 :: c1 :: c2 :: some (.int x) :: t) st σ = exD X 201 741 (c0 :: c1 :: c2 :: some (.int x) :: t) (.int x :: st) σ := g_iload_3 rfl
set_option maxRecDepth 100000 in
theorem a201_741 {X : SX} {ls : LS0} {st : List Value} {σ : SH} : exD X 201 741 ls st σ = exD X 201 742 ls (.int 1 :: st) σ := g_iconst rfl
set_option maxRecDepth 100000 in
theorem a201_742 {X : SX} {ls : LS0} {st : List Value} {σ : SH} {x y : Int32} : exD X 201 742 ls (.int y :: .int x :: st) σ = exD X 201 743 ls (.int (x + y) :: st) σ := g_iadd rfl
set_option maxRecDepth 100000 in
theorem a201_743 {X : SX} {ls : LS0} {st : List Value} {I : Nat → Nat → Int32} {L : Nat → Nat → Int64} {b : Nat} {i : Int32} (hb : b < 4096) : exD X 201 743 ls (.int i :: .ref b :: st) (ms I L) = iaR (hk (ms I L) b) i (exD X 201 744 ls (.int (I b i.toNatClampNeg) :: st) (ms I L)) := g_iald rfl hb
set_option maxRecDepth 100000 in
theorem a201_744 {X : SX} {x : Nat} {t : LS0} {st : List Value} {σ : SH} : exD X 201 744 (some (.ref x) :: t) st σ = exD X 201 745 (some (.ref x) :: t) (.ref x :: st) σ := g_aload_0 rfl
set_option maxRecDepth 100000 in
theorem a201_745 {X : SX} {c0 c1 c2 : Option Value} {x : Int32} {t : LS0} {st : List Value} {σ : SH} : exD X 201 745 (c0 :: c1 :: c2 :: some (.int x) :: t) st σ = exD X 201 746 (c0 :: c1 :: c2 :: some (.int x) :: t) (.int x :: st) σ := g_iload_3 rfl
set_option maxRecDepth 100000 in
theorem a201_746 {X : SX} {ls : LS0} {st : List Value} {σ : SH} : exD X 201 746 ls st σ = exD X 201 747 ls (.int 2 :: st) σ := g_iconst rfl
set_option maxRecDepth 100000 in
theorem a201_747 {X : SX} {ls : LS0} {st : List Value} {σ : SH} {x y : Int32} : exD X 201 747 ls (.int y :: .int x :: st) σ = exD X 201 748 ls (.int (x + y) :: st) σ := g_iadd rfl
set_option maxRecDepth 100000 in
theorem a201_748 {X : SX} {ls : LS0} {st : List Value} {I : Nat → Nat → Int32} {L : Nat → Nat → Int64} {b : Nat} {i : Int32} (hb : b < 4096) : exD X 201 748 ls (.int i :: .ref b :: st) (ms I L) = iaR (hk (ms I L) b) i (exD X 201 749 ls (.int (I b i.toNatClampNeg) :: st) (ms I L)) := g_iald rfl hb
set_option maxRecDepth 100000 in
theorem a201_749 {X : SX} {x : Nat} {t : LS0} {st : List Value} {σ : SH} : exD X 201 749 (some (.ref x) :: t) st σ = exD X 201 750 (some (.ref x) :: t) (.ref x :: st) σ := g_aload_0 rfl
set_option maxRecDepth 100000 in
theorem a201_750 {X : SX} {c0 c1 c2 : Option Value} {x : Int32} {t : LS0} {st : List Value} {σ : SH} : exD X 201 750 (c0 :: c1 :: c2 :: some (.int x) :: t) st σ = exD X 201 751 (c0 :: c1 :: c2 :: some (.int x) :: t) (.int x :: st) σ := g_iload_3 rfl
set_option maxRecDepth 100000 in
theorem a201_751 {X : SX} {ls : LS0} {st : List Value} {σ : SH} : exD X 201 751 ls st σ = exD X 201 752 ls (.int 3 :: st) σ := g_iconst rfl
set_option maxRecDepth 100000 in
theorem a201_752 {X : SX} {ls : LS0} {st : List Value} {σ : SH} {x y : Int32} : exD X 201 752 ls (.int y :: .int x :: st) σ = exD X 201 753 ls (.int (x + y) :: st) σ := g_iadd rfl
set_option maxRecDepth 100000 in
theorem a201_753 {X : SX} {ls : LS0} {st : List Value} {I : Nat → Nat → Int32} {L : Nat → Nat → Int64} {b : Nat} {i : Int32} (hb : b < 4096) : exD X 201 753 ls (.int i :: .ref b :: st) (ms I L) = iaR (hk (ms I L) b) i (exD X 201 754 ls (.int (I b i.toNatClampNeg) :: st) (ms I L)) := g_iald rfl hb
set_option maxRecDepth 100000 in
theorem a201_754 {X : SX} {ls : LS0} {st : List Value} {I : Nat → Nat → Int32} {L : Nat → Nat → Int64} {w0 : Int32} {w1 : Int32} {w2 : Int32} {b : Nat} (hb : hk (ms I L) b = some (0, 9)) (h8 : cS st ≤ 8) : exD X 201 754 ls (.int w2 :: .int w1 :: .int w0 :: .ref b :: st) (ms I L) = cR (caD X 92 [.ref b, .int w0, .int w1, .int w2] (ms I L)) (fun w s => exD X 201 757 ls (psh w st) s) := g_cv rfl rfl rfl (Nat.le_of_ble_eq_true rfl) h8 hb
set_option maxRecDepth 100000 in
theorem a201_757 {X : SX} {c0 c1 : Option Value} {x : Nat} {t : LS0} {st : List Value} {σ : SH} : exD X 201 757 (c0 :: c1 :: some (.ref x) :: t) st σ = exD X 201 758 (c0 :: c1 :: some (.ref x) :: t) (.ref x :: st) σ := g_aload_2 rfl
set_option maxRecDepth 100000 in
theorem a201_758 {X : SX} {x : Nat} {t : LS0} {st : List Value} {σ : SH} : exD X 201 758 (some (.ref x) :: t) st σ = exD X 201 759 (some (.ref x) :: t) (.ref x :: st) σ := g_aload_0 rfl
set_option maxRecDepth 100000 in
theorem a201_759 {X : SX} {c0 c1 c2 : Option Value} {x : Int32} {t : LS0} {st : List Value} {σ : SH} : exD X 201 759 (c0 :: c1 :: c2 :: some (.int x) :: t) st σ = exD X 201 760 (c0 :: c1 :: c2 :: some (.int x) :: t) (.int x :: st) σ := g_iload_3 rfl
set_option maxRecDepth 100000 in
theorem a201_760 {X : SX} {ls : LS0} {st : List Value} {σ : SH} : exD X 201 760 ls st σ = exD X 201 761 ls (.int 1 :: st) σ := g_iconst rfl
set_option maxRecDepth 100000 in
theorem a201_761 {X : SX} {ls : LS0} {st : List Value} {σ : SH} {x y : Int32} : exD X 201 761 ls (.int y :: .int x :: st) σ = exD X 201 762 ls (.int (x + y) :: st) σ := g_iadd rfl
set_option maxRecDepth 100000 in
theorem a201_762 {X : SX} {ls : LS0} {st : List Value} {I : Nat → Nat → Int32} {L : Nat → Nat → Int64} {b : Nat} {i : Int32} (hb : b < 4096) : exD X 201 762 ls (.int i :: .ref b :: st) (ms I L) = iaR (hk (ms I L) b) i (exD X 201 763 ls (.int (I b i.toNatClampNeg) :: st) (ms I L)) := g_iald rfl hb
set_option maxRecDepth 100000 in
theorem a201_763 {X : SX} {x : Nat} {t : LS0} {st : List Value} {σ : SH} : exD X 201 763 (some (.ref x) :: t) st σ = exD X 201 764 (some (.ref x) :: t) (.ref x :: st) σ := g_aload_0 rfl
set_option maxRecDepth 100000 in
theorem a201_764 {X : SX} {c0 c1 c2 : Option Value} {x : Int32} {t : LS0} {st : List Value} {σ : SH} : exD X 201 764 (c0 :: c1 :: c2 :: some (.int x) :: t) st σ = exD X 201 765 (c0 :: c1 :: c2 :: some (.int x) :: t) (.int x :: st) σ := g_iload_3 rfl
set_option maxRecDepth 100000 in
theorem a201_765 {X : SX} {ls : LS0} {st : List Value} {σ : SH} : exD X 201 765 ls st σ = exD X 201 766 ls (.int 2 :: st) σ := g_iconst rfl
set_option maxRecDepth 100000 in
theorem a201_766 {X : SX} {ls : LS0} {st : List Value} {σ : SH} {x y : Int32} : exD X 201 766 ls (.int y :: .int x :: st) σ = exD X 201 767 ls (.int (x + y) :: st) σ := g_iadd rfl
set_option maxRecDepth 100000 in
theorem a201_767 {X : SX} {ls : LS0} {st : List Value} {I : Nat → Nat → Int32} {L : Nat → Nat → Int64} {b : Nat} {i : Int32} (hb : b < 4096) : exD X 201 767 ls (.int i :: .ref b :: st) (ms I L) = iaR (hk (ms I L) b) i (exD X 201 768 ls (.int (I b i.toNatClampNeg) :: st) (ms I L)) := g_iald rfl hb
set_option maxRecDepth 100000 in
theorem a201_768 {X : SX} {x : Nat} {t : LS0} {st : List Value} {σ : SH} : exD X 201 768 (some (.ref x) :: t) st σ = exD X 201 769 (some (.ref x) :: t) (.ref x :: st) σ := g_aload_0 rfl
set_option maxRecDepth 100000 in
theorem a201_769 {X : SX} {c0 c1 c2 : Option Value} {x : Int32} {t : LS0} {st : List Value} {σ : SH} : exD X 201 769 (c0 :: c1 :: c2 :: some (.int x) :: t) st σ = exD X 201 770 (c0 :: c1 :: c2 :: some (.int x) :: t) (.int x :: st) σ := g_iload_3 rfl
set_option maxRecDepth 100000 in
theorem a201_770 {X : SX} {ls : LS0} {st : List Value} {σ : SH} : exD X 201 770 ls st σ = exD X 201 771 ls (.int 3 :: st) σ := g_iconst rfl
set_option maxRecDepth 100000 in
theorem a201_771 {X : SX} {ls : LS0} {st : List Value} {σ : SH} {x y : Int32} : exD X 201 771 ls (.int y :: .int x :: st) σ = exD X 201 772 ls (.int (x + y) :: st) σ := g_iadd rfl
set_option maxRecDepth 100000 in
theorem a201_772 {X : SX} {ls : LS0} {st : List Value} {I : Nat → Nat → Int32} {L : Nat → Nat → Int64} {b : Nat} {i : Int32} (hb : b < 4096) : exD X 201 772 ls (.int i :: .ref b :: st) (ms I L) = iaR (hk (ms I L) b) i (exD X 201 773 ls (.int (I b i.toNatClampNeg) :: st) (ms I L)) := g_iald rfl hb
set_option maxRecDepth 100000 in
theorem a201_773 {X : SX} {ls : LS0} {st : List Value} {I : Nat → Nat → Int32} {L : Nat → Nat → Int64} {w0 : Int32} {w1 : Int32} {w2 : Int32} {b : Nat} (hb : hk (ms I L) b = some (0, 10)) (h8 : cS st ≤ 8) : exD X 201 773 ls (.int w2 :: .int w1 :: .int w0 :: .ref b :: st) (ms I L) = cR (caD X 176 [.ref b, .int w0, .int w1, .int w2] (ms I L)) (fun w s => exD X 201 776 ls (psh w st) s) := g_cv rfl rfl rfl (Nat.le_of_ble_eq_true rfl) h8 hb
set_option maxRecDepth 100000 in
theorem a201_776 {X : SX} {ls : LS0} {st : List Value} {σ : SH} {x y : Int32} : exD X 201 776 ls (.int y :: .int x :: st) σ = if x = y then exD X 201 1251 ls st σ else exD X 201 779 ls st σ := g_if_icmp_eq rfl
set_option maxRecDepth 100000 in
theorem a201_779 {X : SX} {ls : LS0} {st : List Value} {σ : SH} : exD X 201 779 ls st σ = exD X 201 780 ls (.int 0 :: st) σ := g_iconst rfl
set_option maxRecDepth 100000 in
theorem a201_780 {X : SX} {ls : LS0} {σ : SH} {x : Int32} : exD X 201 780 ls [.int x] σ = if x = 0 ∨ x = 1 then some (some (.int x), σ) else none := g_zret rfl rfl
set_option maxRecDepth 100000 in
theorem a201_781 {X : SX} {c0 : Option Value} {x : Nat} {t : LS0} {st : List Value} {σ : SH} : exD X 201 781 (c0 :: some (.ref x) :: t) st σ = exD X 201 782 (c0 :: some (.ref x) :: t) (.ref x :: st) σ := g_aload_1 rfl
set_option maxRecDepth 100000 in
theorem a201_782 {X : SX} {x : Nat} {t : LS0} {st : List Value} {σ : SH} : exD X 201 782 (some (.ref x) :: t) st σ = exD X 201 783 (some (.ref x) :: t) (.ref x :: st) σ := g_aload_0 rfl
set_option maxRecDepth 100000 in
theorem a201_783 {X : SX} {c0 c1 c2 : Option Value} {x : Int32} {t : LS0} {st : List Value} {σ : SH} : exD X 201 783 (c0 :: c1 :: c2 :: some (.int x) :: t) st σ = exD X 201 784 (c0 :: c1 :: c2 :: some (.int x) :: t) (.int x :: st) σ := g_iload_3 rfl
set_option maxRecDepth 100000 in
theorem a201_784 {X : SX} {ls : LS0} {st : List Value} {σ : SH} : exD X 201 784 ls st σ = exD X 201 785 ls (.int 1 :: st) σ := g_iconst rfl
set_option maxRecDepth 100000 in
theorem a201_785 {X : SX} {ls : LS0} {st : List Value} {σ : SH} {x y : Int32} : exD X 201 785 ls (.int y :: .int x :: st) σ = exD X 201 786 ls (.int (x + y) :: st) σ := g_iadd rfl
set_option maxRecDepth 100000 in
theorem a201_786 {X : SX} {ls : LS0} {st : List Value} {I : Nat → Nat → Int32} {L : Nat → Nat → Int64} {b : Nat} {i : Int32} (hb : b < 4096) : exD X 201 786 ls (.int i :: .ref b :: st) (ms I L) = iaR (hk (ms I L) b) i (exD X 201 787 ls (.int (I b i.toNatClampNeg) :: st) (ms I L)) := g_iald rfl hb
set_option maxRecDepth 100000 in
theorem a201_787 {X : SX} {x : Nat} {t : LS0} {st : List Value} {σ : SH} : exD X 201 787 (some (.ref x) :: t) st σ = exD X 201 788 (some (.ref x) :: t) (.ref x :: st) σ := g_aload_0 rfl
set_option maxRecDepth 100000 in
theorem a201_788 {X : SX} {c0 c1 c2 : Option Value} {x : Int32} {t : LS0} {st : List Value} {σ : SH} : exD X 201 788 (c0 :: c1 :: c2 :: some (.int x) :: t) st σ = exD X 201 789 (c0 :: c1 :: c2 :: some (.int x) :: t) (.int x :: st) σ := g_iload_3 rfl
set_option maxRecDepth 100000 in
theorem a201_789 {X : SX} {ls : LS0} {st : List Value} {σ : SH} : exD X 201 789 ls st σ = exD X 201 790 ls (.int 2 :: st) σ := g_iconst rfl
set_option maxRecDepth 100000 in
theorem a201_790 {X : SX} {ls : LS0} {st : List Value} {σ : SH} {x y : Int32} : exD X 201 790 ls (.int y :: .int x :: st) σ = exD X 201 791 ls (.int (x + y) :: st) σ := g_iadd rfl
set_option maxRecDepth 100000 in
theorem a201_791 {X : SX} {ls : LS0} {st : List Value} {I : Nat → Nat → Int32} {L : Nat → Nat → Int64} {b : Nat} {i : Int32} (hb : b < 4096) : exD X 201 791 ls (.int i :: .ref b :: st) (ms I L) = iaR (hk (ms I L) b) i (exD X 201 792 ls (.int (I b i.toNatClampNeg) :: st) (ms I L)) := g_iald rfl hb
set_option maxRecDepth 100000 in
theorem a201_792 {X : SX} {ls : LS0} {st : List Value} {I : Nat → Nat → Int32} {L : Nat → Nat → Int64} {w0 : Int32} {w1 : Int32} {b : Nat} (hb : hk (ms I L) b = some (0, 9)) (h8 : cS st ≤ 8) : exD X 201 792 ls (.int w1 :: .int w0 :: .ref b :: st) (ms I L) = cR (caD X 93 [.ref b, .int w0, .int w1] (ms I L)) (fun w s => exD X 201 795 ls (psh w st) s) := g_cv rfl rfl rfl (Nat.le_of_ble_eq_true rfl) h8 hb
set_option maxRecDepth 100000 in
theorem a201_795 {X : SX} {c0 c1 : Option Value} {x : Nat} {t : LS0} {st : List Value} {σ : SH} : exD X 201 795 (c0 :: c1 :: some (.ref x) :: t) st σ = exD X 201 796 (c0 :: c1 :: some (.ref x) :: t) (.ref x :: st) σ := g_aload_2 rfl
set_option maxRecDepth 100000 in
theorem a201_796 {X : SX} {x : Nat} {t : LS0} {st : List Value} {σ : SH} : exD X 201 796 (some (.ref x) :: t) st σ = exD X 201 797 (some (.ref x) :: t) (.ref x :: st) σ := g_aload_0 rfl
set_option maxRecDepth 100000 in
theorem a201_797 {X : SX} {c0 c1 c2 : Option Value} {x : Int32} {t : LS0} {st : List Value} {σ : SH} : exD X 201 797 (c0 :: c1 :: c2 :: some (.int x) :: t) st σ = exD X 201 798 (c0 :: c1 :: c2 :: some (.int x) :: t) (.int x :: st) σ := g_iload_3 rfl
set_option maxRecDepth 100000 in
theorem a201_798 {X : SX} {ls : LS0} {st : List Value} {σ : SH} : exD X 201 798 ls st σ = exD X 201 799 ls (.int 1 :: st) σ := g_iconst rfl
set_option maxRecDepth 100000 in
theorem a201_799 {X : SX} {ls : LS0} {st : List Value} {σ : SH} {x y : Int32} : exD X 201 799 ls (.int y :: .int x :: st) σ = exD X 201 800 ls (.int (x + y) :: st) σ := g_iadd rfl
set_option maxRecDepth 100000 in
theorem a201_800 {X : SX} {ls : LS0} {st : List Value} {I : Nat → Nat → Int32} {L : Nat → Nat → Int64} {b : Nat} {i : Int32} (hb : b < 4096) : exD X 201 800 ls (.int i :: .ref b :: st) (ms I L) = iaR (hk (ms I L) b) i (exD X 201 801 ls (.int (I b i.toNatClampNeg) :: st) (ms I L)) := g_iald rfl hb
set_option maxRecDepth 100000 in
theorem a201_801 {X : SX} {x : Nat} {t : LS0} {st : List Value} {σ : SH} : exD X 201 801 (some (.ref x) :: t) st σ = exD X 201 802 (some (.ref x) :: t) (.ref x :: st) σ := g_aload_0 rfl
set_option maxRecDepth 100000 in
theorem a201_802 {X : SX} {c0 c1 c2 : Option Value} {x : Int32} {t : LS0} {st : List Value} {σ : SH} : exD X 201 802 (c0 :: c1 :: c2 :: some (.int x) :: t) st σ = exD X 201 803 (c0 :: c1 :: c2 :: some (.int x) :: t) (.int x :: st) σ := g_iload_3 rfl
set_option maxRecDepth 100000 in
theorem a201_803 {X : SX} {ls : LS0} {st : List Value} {σ : SH} : exD X 201 803 ls st σ = exD X 201 804 ls (.int 2 :: st) σ := g_iconst rfl
set_option maxRecDepth 100000 in
theorem a201_804 {X : SX} {ls : LS0} {st : List Value} {σ : SH} {x y : Int32} : exD X 201 804 ls (.int y :: .int x :: st) σ = exD X 201 805 ls (.int (x + y) :: st) σ := g_iadd rfl
set_option maxRecDepth 100000 in
theorem a201_805 {X : SX} {ls : LS0} {st : List Value} {I : Nat → Nat → Int32} {L : Nat → Nat → Int64} {b : Nat} {i : Int32} (hb : b < 4096) : exD X 201 805 ls (.int i :: .ref b :: st) (ms I L) = iaR (hk (ms I L) b) i (exD X 201 806 ls (.int (I b i.toNatClampNeg) :: st) (ms I L)) := g_iald rfl hb
set_option maxRecDepth 100000 in
theorem a201_806 {X : SX} {ls : LS0} {st : List Value} {I : Nat → Nat → Int32} {L : Nat → Nat → Int64} {w0 : Int32} {w1 : Int32} {b : Nat} (hb : hk (ms I L) b = some (0, 10)) (h8 : cS st ≤ 8) : exD X 201 806 ls (.int w1 :: .int w0 :: .ref b :: st) (ms I L) = cR (caD X 177 [.ref b, .int w0, .int w1] (ms I L)) (fun w s => exD X 201 809 ls (psh w st) s) := g_cv rfl rfl rfl (Nat.le_of_ble_eq_true rfl) h8 hb
set_option maxRecDepth 100000 in
theorem a201_809 {X : SX} {ls : LS0} {st : List Value} {σ : SH} {x y : Int32} : exD X 201 809 ls (.int y :: .int x :: st) σ = if x = y then exD X 201 1251 ls st σ else exD X 201 812 ls st σ := g_if_icmp_eq rfl
set_option maxRecDepth 100000 in
theorem a201_812 {X : SX} {ls : LS0} {st : List Value} {σ : SH} : exD X 201 812 ls st σ = exD X 201 813 ls (.int 0 :: st) σ := g_iconst rfl
set_option maxRecDepth 100000 in
theorem a201_813 {X : SX} {ls : LS0} {σ : SH} {x : Int32} : exD X 201 813 ls [.int x] σ = if x = 0 ∨ x = 1 then some (some (.int x), σ) else none := g_zret rfl rfl
set_option maxRecDepth 100000 in
theorem a201_814 {X : SX} {c0 : Option Value} {x : Nat} {t : LS0} {st : List Value} {σ : SH} : exD X 201 814 (c0 :: some (.ref x) :: t) st σ = exD X 201 815 (c0 :: some (.ref x) :: t) (.ref x :: st) σ := g_aload_1 rfl
set_option maxRecDepth 100000 in
theorem a201_815 {X : SX} {x : Nat} {t : LS0} {st : List Value} {σ : SH} : exD X 201 815 (some (.ref x) :: t) st σ = exD X 201 816 (some (.ref x) :: t) (.ref x :: st) σ := g_aload_0 rfl
set_option maxRecDepth 100000 in
theorem a201_816 {X : SX} {c0 c1 c2 : Option Value} {x : Int32} {t : LS0} {st : List Value} {σ : SH} : exD X 201 816 (c0 :: c1 :: c2 :: some (.int x) :: t) st σ = exD X 201 817 (c0 :: c1 :: c2 :: some (.int x) :: t) (.int x :: st) σ := g_iload_3 rfl
set_option maxRecDepth 100000 in
theorem a201_817 {X : SX} {ls : LS0} {st : List Value} {σ : SH} : exD X 201 817 ls st σ = exD X 201 818 ls (.int 1 :: st) σ := g_iconst rfl
set_option maxRecDepth 100000 in
theorem a201_818 {X : SX} {ls : LS0} {st : List Value} {σ : SH} {x y : Int32} : exD X 201 818 ls (.int y :: .int x :: st) σ = exD X 201 819 ls (.int (x + y) :: st) σ := g_iadd rfl
set_option maxRecDepth 100000 in
theorem a201_819 {X : SX} {ls : LS0} {st : List Value} {I : Nat → Nat → Int32} {L : Nat → Nat → Int64} {b : Nat} {i : Int32} (hb : b < 4096) : exD X 201 819 ls (.int i :: .ref b :: st) (ms I L) = iaR (hk (ms I L) b) i (exD X 201 820 ls (.int (I b i.toNatClampNeg) :: st) (ms I L)) := g_iald rfl hb
set_option maxRecDepth 100000 in
theorem a201_820 {X : SX} {x : Nat} {t : LS0} {st : List Value} {σ : SH} : exD X 201 820 (some (.ref x) :: t) st σ = exD X 201 821 (some (.ref x) :: t) (.ref x :: st) σ := g_aload_0 rfl
set_option maxRecDepth 100000 in
theorem a201_821 {X : SX} {c0 c1 c2 : Option Value} {x : Int32} {t : LS0} {st : List Value} {σ : SH} : exD X 201 821 (c0 :: c1 :: c2 :: some (.int x) :: t) st σ = exD X 201 822 (c0 :: c1 :: c2 :: some (.int x) :: t) (.int x :: st) σ := g_iload_3 rfl
set_option maxRecDepth 100000 in
theorem a201_822 {X : SX} {ls : LS0} {st : List Value} {σ : SH} : exD X 201 822 ls st σ = exD X 201 823 ls (.int 2 :: st) σ := g_iconst rfl
set_option maxRecDepth 100000 in
theorem a201_823 {X : SX} {ls : LS0} {st : List Value} {σ : SH} {x y : Int32} : exD X 201 823 ls (.int y :: .int x :: st) σ = exD X 201 824 ls (.int (x + y) :: st) σ := g_iadd rfl
set_option maxRecDepth 100000 in
theorem a201_824 {X : SX} {ls : LS0} {st : List Value} {I : Nat → Nat → Int32} {L : Nat → Nat → Int64} {b : Nat} {i : Int32} (hb : b < 4096) : exD X 201 824 ls (.int i :: .ref b :: st) (ms I L) = iaR (hk (ms I L) b) i (exD X 201 825 ls (.int (I b i.toNatClampNeg) :: st) (ms I L)) := g_iald rfl hb
set_option maxRecDepth 100000 in
theorem a201_825 {X : SX} {ls : LS0} {st : List Value} {I : Nat → Nat → Int32} {L : Nat → Nat → Int64} {w0 : Int32} {w1 : Int32} {b : Nat} (hb : hk (ms I L) b = some (0, 9)) (h8 : cS st ≤ 8) : exD X 201 825 ls (.int w1 :: .int w0 :: .ref b :: st) (ms I L) = cR (caD X 94 [.ref b, .int w0, .int w1] (ms I L)) (fun w s => exD X 201 828 ls (psh w st) s) := g_cv rfl rfl rfl (Nat.le_of_ble_eq_true rfl) h8 hb
set_option maxRecDepth 100000 in
theorem a201_828 {X : SX} {c0 c1 : Option Value} {x : Nat} {t : LS0} {st : List Value} {σ : SH} : exD X 201 828 (c0 :: c1 :: some (.ref x) :: t) st σ = exD X 201 829 (c0 :: c1 :: some (.ref x) :: t) (.ref x :: st) σ := g_aload_2 rfl
set_option maxRecDepth 100000 in
theorem a201_829 {X : SX} {x : Nat} {t : LS0} {st : List Value} {σ : SH} : exD X 201 829 (some (.ref x) :: t) st σ = exD X 201 830 (some (.ref x) :: t) (.ref x :: st) σ := g_aload_0 rfl
set_option maxRecDepth 100000 in
theorem a201_830 {X : SX} {c0 c1 c2 : Option Value} {x : Int32} {t : LS0} {st : List Value} {σ : SH} : exD X 201 830 (c0 :: c1 :: c2 :: some (.int x) :: t) st σ = exD X 201 831 (c0 :: c1 :: c2 :: some (.int x) :: t) (.int x :: st) σ := g_iload_3 rfl
set_option maxRecDepth 100000 in
theorem a201_831 {X : SX} {ls : LS0} {st : List Value} {σ : SH} : exD X 201 831 ls st σ = exD X 201 832 ls (.int 1 :: st) σ := g_iconst rfl
set_option maxRecDepth 100000 in
theorem a201_832 {X : SX} {ls : LS0} {st : List Value} {σ : SH} {x y : Int32} : exD X 201 832 ls (.int y :: .int x :: st) σ = exD X 201 833 ls (.int (x + y) :: st) σ := g_iadd rfl
set_option maxRecDepth 100000 in
theorem a201_833 {X : SX} {ls : LS0} {st : List Value} {I : Nat → Nat → Int32} {L : Nat → Nat → Int64} {b : Nat} {i : Int32} (hb : b < 4096) : exD X 201 833 ls (.int i :: .ref b :: st) (ms I L) = iaR (hk (ms I L) b) i (exD X 201 834 ls (.int (I b i.toNatClampNeg) :: st) (ms I L)) := g_iald rfl hb
set_option maxRecDepth 100000 in
theorem a201_834 {X : SX} {x : Nat} {t : LS0} {st : List Value} {σ : SH} : exD X 201 834 (some (.ref x) :: t) st σ = exD X 201 835 (some (.ref x) :: t) (.ref x :: st) σ := g_aload_0 rfl
set_option maxRecDepth 100000 in
theorem a201_835 {X : SX} {c0 c1 c2 : Option Value} {x : Int32} {t : LS0} {st : List Value} {σ : SH} : exD X 201 835 (c0 :: c1 :: c2 :: some (.int x) :: t) st σ = exD X 201 836 (c0 :: c1 :: c2 :: some (.int x) :: t) (.int x :: st) σ := g_iload_3 rfl
set_option maxRecDepth 100000 in
theorem a201_836 {X : SX} {ls : LS0} {st : List Value} {σ : SH} : exD X 201 836 ls st σ = exD X 201 837 ls (.int 2 :: st) σ := g_iconst rfl
set_option maxRecDepth 100000 in
theorem a201_837 {X : SX} {ls : LS0} {st : List Value} {σ : SH} {x y : Int32} : exD X 201 837 ls (.int y :: .int x :: st) σ = exD X 201 838 ls (.int (x + y) :: st) σ := g_iadd rfl
set_option maxRecDepth 100000 in
theorem a201_838 {X : SX} {ls : LS0} {st : List Value} {I : Nat → Nat → Int32} {L : Nat → Nat → Int64} {b : Nat} {i : Int32} (hb : b < 4096) : exD X 201 838 ls (.int i :: .ref b :: st) (ms I L) = iaR (hk (ms I L) b) i (exD X 201 839 ls (.int (I b i.toNatClampNeg) :: st) (ms I L)) := g_iald rfl hb
set_option maxRecDepth 100000 in
theorem a201_839 {X : SX} {ls : LS0} {st : List Value} {I : Nat → Nat → Int32} {L : Nat → Nat → Int64} {w0 : Int32} {w1 : Int32} {b : Nat} (hb : hk (ms I L) b = some (0, 10)) (h8 : cS st ≤ 8) : exD X 201 839 ls (.int w1 :: .int w0 :: .ref b :: st) (ms I L) = cR (caD X 178 [.ref b, .int w0, .int w1] (ms I L)) (fun w s => exD X 201 842 ls (psh w st) s) := g_cv rfl rfl rfl (Nat.le_of_ble_eq_true rfl) h8 hb
set_option maxRecDepth 100000 in
theorem a201_842 {X : SX} {ls : LS0} {st : List Value} {σ : SH} {x y : Int32} : exD X 201 842 ls (.int y :: .int x :: st) σ = if x = y then exD X 201 1251 ls st σ else exD X 201 845 ls st σ := g_if_icmp_eq rfl
set_option maxRecDepth 100000 in
theorem a201_845 {X : SX} {ls : LS0} {st : List Value} {σ : SH} : exD X 201 845 ls st σ = exD X 201 846 ls (.int 0 :: st) σ := g_iconst rfl
set_option maxRecDepth 100000 in
theorem a201_846 {X : SX} {ls : LS0} {σ : SH} {x : Int32} : exD X 201 846 ls [.int x] σ = if x = 0 ∨ x = 1 then some (some (.int x), σ) else none := g_zret rfl rfl
set_option maxRecDepth 100000 in
theorem a201_847 {X : SX} {c0 : Option Value} {x : Nat} {t : LS0} {st : List Value} {σ : SH} : exD X 201 847 (c0 :: some (.ref x) :: t) st σ = exD X 201 848 (c0 :: some (.ref x) :: t) (.ref x :: st) σ := g_aload_1 rfl
set_option maxRecDepth 100000 in
theorem a201_848 {X : SX} {x : Nat} {t : LS0} {st : List Value} {σ : SH} : exD X 201 848 (some (.ref x) :: t) st σ = exD X 201 849 (some (.ref x) :: t) (.ref x :: st) σ := g_aload_0 rfl
set_option maxRecDepth 100000 in
theorem a201_849 {X : SX} {c0 c1 c2 : Option Value} {x : Int32} {t : LS0} {st : List Value} {σ : SH} : exD X 201 849 (c0 :: c1 :: c2 :: some (.int x) :: t) st σ = exD X 201 850 (c0 :: c1 :: c2 :: some (.int x) :: t) (.int x :: st) σ := g_iload_3 rfl
set_option maxRecDepth 100000 in
theorem a201_850 {X : SX} {ls : LS0} {st : List Value} {σ : SH} : exD X 201 850 ls st σ = exD X 201 851 ls (.int 1 :: st) σ := g_iconst rfl
set_option maxRecDepth 100000 in
theorem a201_851 {X : SX} {ls : LS0} {st : List Value} {σ : SH} {x y : Int32} : exD X 201 851 ls (.int y :: .int x :: st) σ = exD X 201 852 ls (.int (x + y) :: st) σ := g_iadd rfl
set_option maxRecDepth 100000 in
theorem a201_852 {X : SX} {ls : LS0} {st : List Value} {I : Nat → Nat → Int32} {L : Nat → Nat → Int64} {b : Nat} {i : Int32} (hb : b < 4096) : exD X 201 852 ls (.int i :: .ref b :: st) (ms I L) = iaR (hk (ms I L) b) i (exD X 201 853 ls (.int (I b i.toNatClampNeg) :: st) (ms I L)) := g_iald rfl hb
set_option maxRecDepth 100000 in
theorem a201_853 {X : SX} {ls : LS0} {st : List Value} {I : Nat → Nat → Int32} {L : Nat → Nat → Int64} {w0 : Int32} {b : Nat} (hb : hk (ms I L) b = some (0, 9)) (h8 : cS st ≤ 8) : exD X 201 853 ls (.int w0 :: .ref b :: st) (ms I L) = cR (caD X 95 [.ref b, .int w0] (ms I L)) (fun w s => exD X 201 856 ls (psh w st) s) := g_cv rfl rfl rfl (Nat.le_of_ble_eq_true rfl) h8 hb
set_option maxRecDepth 100000 in
theorem a201_856 {X : SX} {c0 c1 : Option Value} {x : Nat} {t : LS0} {st : List Value} {σ : SH} : exD X 201 856 (c0 :: c1 :: some (.ref x) :: t) st σ = exD X 201 857 (c0 :: c1 :: some (.ref x) :: t) (.ref x :: st) σ := g_aload_2 rfl
set_option maxRecDepth 100000 in
theorem a201_857 {X : SX} {x : Nat} {t : LS0} {st : List Value} {σ : SH} : exD X 201 857 (some (.ref x) :: t) st σ = exD X 201 858 (some (.ref x) :: t) (.ref x :: st) σ := g_aload_0 rfl
set_option maxRecDepth 100000 in
theorem a201_858 {X : SX} {c0 c1 c2 : Option Value} {x : Int32} {t : LS0} {st : List Value} {σ : SH} : exD X 201 858 (c0 :: c1 :: c2 :: some (.int x) :: t) st σ = exD X 201 859 (c0 :: c1 :: c2 :: some (.int x) :: t) (.int x :: st) σ := g_iload_3 rfl
set_option maxRecDepth 100000 in
theorem a201_859 {X : SX} {ls : LS0} {st : List Value} {σ : SH} : exD X 201 859 ls st σ = exD X 201 860 ls (.int 1 :: st) σ := g_iconst rfl
set_option maxRecDepth 100000 in
theorem a201_860 {X : SX} {ls : LS0} {st : List Value} {σ : SH} {x y : Int32} : exD X 201 860 ls (.int y :: .int x :: st) σ = exD X 201 861 ls (.int (x + y) :: st) σ := g_iadd rfl
set_option maxRecDepth 100000 in
theorem a201_861 {X : SX} {ls : LS0} {st : List Value} {I : Nat → Nat → Int32} {L : Nat → Nat → Int64} {b : Nat} {i : Int32} (hb : b < 4096) : exD X 201 861 ls (.int i :: .ref b :: st) (ms I L) = iaR (hk (ms I L) b) i (exD X 201 862 ls (.int (I b i.toNatClampNeg) :: st) (ms I L)) := g_iald rfl hb
set_option maxRecDepth 100000 in
theorem a201_862 {X : SX} {ls : LS0} {st : List Value} {I : Nat → Nat → Int32} {L : Nat → Nat → Int64} {w0 : Int32} {b : Nat} (hb : hk (ms I L) b = some (0, 10)) (h8 : cS st ≤ 8) : exD X 201 862 ls (.int w0 :: .ref b :: st) (ms I L) = cR (caD X 179 [.ref b, .int w0] (ms I L)) (fun w s => exD X 201 865 ls (psh w st) s) := g_cv rfl rfl rfl (Nat.le_of_ble_eq_true rfl) h8 hb
set_option maxRecDepth 100000 in
theorem a201_865 {X : SX} {ls : LS0} {st : List Value} {σ : SH} {x y : Int32} : exD X 201 865 ls (.int y :: .int x :: st) σ = if x = y then exD X 201 1251 ls st σ else exD X 201 868 ls st σ := g_if_icmp_eq rfl
set_option maxRecDepth 100000 in
theorem a201_868 {X : SX} {ls : LS0} {st : List Value} {σ : SH} : exD X 201 868 ls st σ = exD X 201 869 ls (.int 0 :: st) σ := g_iconst rfl
set_option maxRecDepth 100000 in
theorem a201_869 {X : SX} {ls : LS0} {σ : SH} {x : Int32} : exD X 201 869 ls [.int x] σ = if x = 0 ∨ x = 1 then some (some (.int x), σ) else none := g_zret rfl rfl
set_option maxRecDepth 100000 in
theorem a201_870 {X : SX} {c0 : Option Value} {x : Nat} {t : LS0} {st : List Value} {σ : SH} : exD X 201 870 (c0 :: some (.ref x) :: t) st σ = exD X 201 871 (c0 :: some (.ref x) :: t) (.ref x :: st) σ := g_aload_1 rfl
set_option maxRecDepth 100000 in
theorem a201_871 {X : SX} {ls : LS0} {st : List Value} {I : Nat → Nat → Int32} {L : Nat → Nat → Int64} {b : Nat} (hb : hk (ms I L) b = some (0, 9)) (h8 : cS st ≤ 8) : exD X 201 871 ls (.ref b :: st) (ms I L) = cR (caD X 96 [.ref b] (ms I L)) (fun w s => exD X 201 874 ls (psh w st) s) := g_cv rfl rfl rfl (Nat.le_of_ble_eq_true rfl) h8 hb
set_option maxRecDepth 100000 in
theorem a201_874 {X : SX} {c0 c1 : Option Value} {x : Nat} {t : LS0} {st : List Value} {σ : SH} : exD X 201 874 (c0 :: c1 :: some (.ref x) :: t) st σ = exD X 201 875 (c0 :: c1 :: some (.ref x) :: t) (.ref x :: st) σ := g_aload_2 rfl
set_option maxRecDepth 100000 in
theorem a201_875 {X : SX} {ls : LS0} {st : List Value} {I : Nat → Nat → Int32} {L : Nat → Nat → Int64} {b : Nat} (hb : hk (ms I L) b = some (0, 10)) (h8 : cS st ≤ 8) : exD X 201 875 ls (.ref b :: st) (ms I L) = cR (caD X 180 [.ref b] (ms I L)) (fun w s => exD X 201 878 ls (psh w st) s) := g_cv rfl rfl rfl (Nat.le_of_ble_eq_true rfl) h8 hb
set_option maxRecDepth 100000 in
theorem a201_878 {X : SX} {ls : LS0} {st : List Value} {σ : SH} {x y : Int32} : exD X 201 878 ls (.int y :: .int x :: st) σ = if x = y then exD X 201 1251 ls st σ else exD X 201 881 ls st σ := g_if_icmp_eq rfl
set_option maxRecDepth 100000 in
theorem a201_881 {X : SX} {ls : LS0} {st : List Value} {σ : SH} : exD X 201 881 ls st σ = exD X 201 882 ls (.int 0 :: st) σ := g_iconst rfl
set_option maxRecDepth 100000 in
theorem a201_882 {X : SX} {ls : LS0} {σ : SH} {x : Int32} : exD X 201 882 ls [.int x] σ = if x = 0 ∨ x = 1 then some (some (.int x), σ) else none := g_zret rfl rfl
set_option maxRecDepth 100000 in
theorem a201_883 {X : SX} {c0 : Option Value} {x : Nat} {t : LS0} {st : List Value} {σ : SH} : exD X 201 883 (c0 :: some (.ref x) :: t) st σ = exD X 201 884 (c0 :: some (.ref x) :: t) (.ref x :: st) σ := g_aload_1 rfl
set_option maxRecDepth 100000 in
theorem a201_884 {X : SX} {x : Nat} {t : LS0} {st : List Value} {σ : SH} : exD X 201 884 (some (.ref x) :: t) st σ = exD X 201 885 (some (.ref x) :: t) (.ref x :: st) σ := g_aload_0 rfl
set_option maxRecDepth 100000 in
theorem a201_885 {X : SX} {c0 c1 c2 : Option Value} {x : Int32} {t : LS0} {st : List Value} {σ : SH} : exD X 201 885 (c0 :: c1 :: c2 :: some (.int x) :: t) st σ = exD X 201 886 (c0 :: c1 :: c2 :: some (.int x) :: t) (.int x :: st) σ := g_iload_3 rfl
set_option maxRecDepth 100000 in
theorem a201_886 {X : SX} {ls : LS0} {st : List Value} {σ : SH} : exD X 201 886 ls st σ = exD X 201 887 ls (.int 1 :: st) σ := g_iconst rfl
set_option maxRecDepth 100000 in
theorem a201_887 {X : SX} {ls : LS0} {st : List Value} {σ : SH} {x y : Int32} : exD X 201 887 ls (.int y :: .int x :: st) σ = exD X 201 888 ls (.int (x + y) :: st) σ := g_iadd rfl
set_option maxRecDepth 100000 in
theorem a201_888 {X : SX} {ls : LS0} {st : List Value} {I : Nat → Nat → Int32} {L : Nat → Nat → Int64} {b : Nat} {i : Int32} (hb : b < 4096) : exD X 201 888 ls (.int i :: .ref b :: st) (ms I L) = iaR (hk (ms I L) b) i (exD X 201 889 ls (.int (I b i.toNatClampNeg) :: st) (ms I L)) := g_iald rfl hb
set_option maxRecDepth 100000 in
theorem a201_889 {X : SX} {ls : LS0} {st : List Value} {I : Nat → Nat → Int32} {L : Nat → Nat → Int64} {w0 : Int32} {b : Nat} (hb : hk (ms I L) b = some (0, 9)) (h8 : cS st ≤ 8) : exD X 201 889 ls (.int w0 :: .ref b :: st) (ms I L) = cR (caD X 97 [.ref b, .int w0] (ms I L)) (fun w s => exD X 201 892 ls (psh w st) s) := g_cv rfl rfl rfl (Nat.le_of_ble_eq_true rfl) h8 hb
set_option maxRecDepth 100000 in
theorem a201_892 {X : SX} {c0 c1 : Option Value} {x : Nat} {t : LS0} {st : List Value} {σ : SH} : exD X 201 892 (c0 :: c1 :: some (.ref x) :: t) st σ = exD X 201 893 (c0 :: c1 :: some (.ref x) :: t) (.ref x :: st) σ := g_aload_2 rfl
set_option maxRecDepth 100000 in
theorem a201_893 {X : SX} {x : Nat} {t : LS0} {st : List Value} {σ : SH} : exD X 201 893 (some (.ref x) :: t) st σ = exD X 201 894 (some (.ref x) :: t) (.ref x :: st) σ := g_aload_0 rfl
set_option maxRecDepth 100000 in
theorem a201_894 {X : SX} {c0 c1 c2 : Option Value} {x : Int32} {t : LS0} {st : List Value} {σ : SH} : exD X 201 894 (c0 :: c1 :: c2 :: some (.int x) :: t) st σ = exD X 201 895 (c0 :: c1 :: c2 :: some (.int x) :: t) (.int x :: st) σ := g_iload_3 rfl
set_option maxRecDepth 100000 in
theorem a201_895 {X : SX} {ls : LS0} {st : List Value} {σ : SH} : exD X 201 895 ls st σ = exD X 201 896 ls (.int 1 :: st) σ := g_iconst rfl
set_option maxRecDepth 100000 in
theorem a201_896 {X : SX} {ls : LS0} {st : List Value} {σ : SH} {x y : Int32} : exD X 201 896 ls (.int y :: .int x :: st) σ = exD X 201 897 ls (.int (x + y) :: st) σ := g_iadd rfl
set_option maxRecDepth 100000 in
theorem a201_897 {X : SX} {ls : LS0} {st : List Value} {I : Nat → Nat → Int32} {L : Nat → Nat → Int64} {b : Nat} {i : Int32} (hb : b < 4096) : exD X 201 897 ls (.int i :: .ref b :: st) (ms I L) = iaR (hk (ms I L) b) i (exD X 201 898 ls (.int (I b i.toNatClampNeg) :: st) (ms I L)) := g_iald rfl hb
set_option maxRecDepth 100000 in
theorem a201_898 {X : SX} {ls : LS0} {st : List Value} {I : Nat → Nat → Int32} {L : Nat → Nat → Int64} {w0 : Int32} {b : Nat} (hb : hk (ms I L) b = some (0, 10)) (h8 : cS st ≤ 8) : exD X 201 898 ls (.int w0 :: .ref b :: st) (ms I L) = cR (caD X 183 [.ref b, .int w0] (ms I L)) (fun w s => exD X 201 901 ls (psh w st) s) := g_cv rfl rfl rfl (Nat.le_of_ble_eq_true rfl) h8 hb
set_option maxRecDepth 100000 in
theorem a201_901 {X : SX} {ls : LS0} {st : List Value} {σ : SH} {x y : Int32} : exD X 201 901 ls (.int y :: .int x :: st) σ = if x = y then exD X 201 1251 ls st σ else exD X 201 904 ls st σ := g_if_icmp_eq rfl
set_option maxRecDepth 100000 in
theorem a201_904 {X : SX} {ls : LS0} {st : List Value} {σ : SH} : exD X 201 904 ls st σ = exD X 201 905 ls (.int 0 :: st) σ := g_iconst rfl
set_option maxRecDepth 100000 in
theorem a201_905 {X : SX} {ls : LS0} {σ : SH} {x : Int32} : exD X 201 905 ls [.int x] σ = if x = 0 ∨ x = 1 then some (some (.int x), σ) else none := g_zret rfl rfl
set_option maxRecDepth 100000 in
theorem a201_906 {X : SX} {c0 : Option Value} {x : Nat} {t : LS0} {st : List Value} {σ : SH} : exD X 201 906 (c0 :: some (.ref x) :: t) st σ = exD X 201 907 (c0 :: some (.ref x) :: t) (.ref x :: st) σ := g_aload_1 rfl
set_option maxRecDepth 100000 in
theorem a201_907 {X : SX} {x : Nat} {t : LS0} {st : List Value} {σ : SH} : exD X 201 907 (some (.ref x) :: t) st σ = exD X 201 908 (some (.ref x) :: t) (.ref x :: st) σ := g_aload_0 rfl
set_option maxRecDepth 100000 in
theorem a201_908 {X : SX} {c0 c1 c2 : Option Value} {x : Int32} {t : LS0} {st : List Value} {σ : SH} : exD X 201 908 (c0 :: c1 :: c2 :: some (.int x) :: t) st σ = exD X 201 909 (c0 :: c1 :: c2 :: some (.int x) :: t) (.int x :: st) σ := g_iload_3 rfl
set_option maxRecDepth 100000 in
theorem a201_909 {X : SX} {ls : LS0} {st : List Value} {σ : SH} : exD X 201 909 ls st σ = exD X 201 910 ls (.int 1 :: st) σ := g_iconst rfl
set_option maxRecDepth 100000 in
theorem a201_910 {X : SX} {ls : LS0} {st : List Value} {σ : SH} {x y : Int32} : exD X 201 910 ls (.int y :: .int x :: st) σ = exD X 201 911 ls (.int (x + y) :: st) σ := g_iadd rfl
set_option maxRecDepth 100000 in
theorem a201_911 {X : SX} {ls : LS0} {st : List Value} {I : Nat → Nat → Int32} {L : Nat → Nat → Int64} {b : Nat} {i : Int32} (hb : b < 4096) : exD X 201 911 ls (.int i :: .ref b :: st) (ms I L) = iaR (hk (ms I L) b) i (exD X 201 912 ls (.int (I b i.toNatClampNeg) :: st) (ms I L)) := g_iald rfl hb
set_option maxRecDepth 100000 in
theorem a201_912 {X : SX} {x : Nat} {t : LS0} {st : List Value} {σ : SH} : exD X 201 912 (some (.ref x) :: t) st σ = exD X 201 913 (some (.ref x) :: t) (.ref x :: st) σ := g_aload_0 rfl
set_option maxRecDepth 100000 in
theorem a201_913 {X : SX} {c0 c1 c2 : Option Value} {x : Int32} {t : LS0} {st : List Value} {σ : SH} : exD X 201 913 (c0 :: c1 :: c2 :: some (.int x) :: t) st σ = exD X 201 914 (c0 :: c1 :: c2 :: some (.int x) :: t) (.int x :: st) σ := g_iload_3 rfl
set_option maxRecDepth 100000 in
theorem a201_914 {X : SX} {ls : LS0} {st : List Value} {σ : SH} : exD X 201 914 ls st σ = exD X 201 915 ls (.int 2 :: st) σ := g_iconst rfl
set_option maxRecDepth 100000 in
theorem a201_915 {X : SX} {ls : LS0} {st : List Value} {σ : SH} {x y : Int32} : exD X 201 915 ls (.int y :: .int x :: st) σ = exD X 201 916 ls (.int (x + y) :: st) σ := g_iadd rfl
set_option maxRecDepth 100000 in
theorem a201_916 {X : SX} {ls : LS0} {st : List Value} {I : Nat → Nat → Int32} {L : Nat → Nat → Int64} {b : Nat} {i : Int32} (hb : b < 4096) : exD X 201 916 ls (.int i :: .ref b :: st) (ms I L) = iaR (hk (ms I L) b) i (exD X 201 917 ls (.int (I b i.toNatClampNeg) :: st) (ms I L)) := g_iald rfl hb
set_option maxRecDepth 100000 in
theorem a201_917 {X : SX} {ls : LS0} {st : List Value} {I : Nat → Nat → Int32} {L : Nat → Nat → Int64} {w0 : Int32} {w1 : Int32} {b : Nat} (hb : hk (ms I L) b = some (0, 9)) (h8 : cS st ≤ 8) : exD X 201 917 ls (.int w1 :: .int w0 :: .ref b :: st) (ms I L) = cR (caD X 98 [.ref b, .int w0, .int w1] (ms I L)) (fun w s => exD X 201 920 ls (psh w st) s) := g_cv rfl rfl rfl (Nat.le_of_ble_eq_true rfl) h8 hb
set_option maxRecDepth 100000 in
theorem a201_920 {X : SX} {c0 c1 : Option Value} {x : Nat} {t : LS0} {st : List Value} {σ : SH} : exD X 201 920 (c0 :: c1 :: some (.ref x) :: t) st σ = exD X 201 921 (c0 :: c1 :: some (.ref x) :: t) (.ref x :: st) σ := g_aload_2 rfl
set_option maxRecDepth 100000 in
theorem a201_921 {X : SX} {x : Nat} {t : LS0} {st : List Value} {σ : SH} : exD X 201 921 (some (.ref x) :: t) st σ = exD X 201 922 (some (.ref x) :: t) (.ref x :: st) σ := g_aload_0 rfl
set_option maxRecDepth 100000 in
theorem a201_922 {X : SX} {c0 c1 c2 : Option Value} {x : Int32} {t : LS0} {st : List Value} {σ : SH} : exD X 201 922 (c0 :: c1 :: c2 :: some (.int x) :: t) st σ = exD X 201 923 (c0 :: c1 :: c2 :: some (.int x) :: t) (.int x :: st) σ := g_iload_3 rfl
set_option maxRecDepth 100000 in
theorem a201_923 {X : SX} {ls : LS0} {st : List Value} {σ : SH} : exD X 201 923 ls st σ = exD X 201 924 ls (.int 1 :: st) σ := g_iconst rfl
set_option maxRecDepth 100000 in
theorem a201_924 {X : SX} {ls : LS0} {st : List Value} {σ : SH} {x y : Int32} : exD X 201 924 ls (.int y :: .int x :: st) σ = exD X 201 925 ls (.int (x + y) :: st) σ := g_iadd rfl
set_option maxRecDepth 100000 in
theorem a201_925 {X : SX} {ls : LS0} {st : List Value} {I : Nat → Nat → Int32} {L : Nat → Nat → Int64} {b : Nat} {i : Int32} (hb : b < 4096) : exD X 201 925 ls (.int i :: .ref b :: st) (ms I L) = iaR (hk (ms I L) b) i (exD X 201 926 ls (.int (I b i.toNatClampNeg) :: st) (ms I L)) := g_iald rfl hb
set_option maxRecDepth 100000 in
theorem a201_926 {X : SX} {x : Nat} {t : LS0} {st : List Value} {σ : SH} : exD X 201 926 (some (.ref x) :: t) st σ = exD X 201 927 (some (.ref x) :: t) (.ref x :: st) σ := g_aload_0 rfl
set_option maxRecDepth 100000 in
theorem a201_927 {X : SX} {c0 c1 c2 : Option Value} {x : Int32} {t : LS0} {st : List Value} {σ : SH} : exD X 201 927 (c0 :: c1 :: c2 :: some (.int x) :: t) st σ = exD X 201 928 (c0 :: c1 :: c2 :: some (.int x) :: t) (.int x :: st) σ := g_iload_3 rfl
set_option maxRecDepth 100000 in
theorem a201_928 {X : SX} {ls : LS0} {st : List Value} {σ : SH} : exD X 201 928 ls st σ = exD X 201 929 ls (.int 2 :: st) σ := g_iconst rfl
set_option maxRecDepth 100000 in
theorem a201_929 {X : SX} {ls : LS0} {st : List Value} {σ : SH} {x y : Int32} : exD X 201 929 ls (.int y :: .int x :: st) σ = exD X 201 930 ls (.int (x + y) :: st) σ := g_iadd rfl
set_option maxRecDepth 100000 in
theorem a201_930 {X : SX} {ls : LS0} {st : List Value} {I : Nat → Nat → Int32} {L : Nat → Nat → Int64} {b : Nat} {i : Int32} (hb : b < 4096) : exD X 201 930 ls (.int i :: .ref b :: st) (ms I L) = iaR (hk (ms I L) b) i (exD X 201 931 ls (.int (I b i.toNatClampNeg) :: st) (ms I L)) := g_iald rfl hb
set_option maxRecDepth 100000 in
theorem a201_931 {X : SX} {ls : LS0} {st : List Value} {I : Nat → Nat → Int32} {L : Nat → Nat → Int64} {w0 : Int32} {w1 : Int32} {b : Nat} (hb : hk (ms I L) b = some (0, 10)) (h8 : cS st ≤ 8) : exD X 201 931 ls (.int w1 :: .int w0 :: .ref b :: st) (ms I L) = cR (caD X 185 [.ref b, .int w0, .int w1] (ms I L)) (fun w s => exD X 201 934 ls (psh w st) s) := g_cv rfl rfl rfl (Nat.le_of_ble_eq_true rfl) h8 hb
set_option maxRecDepth 100000 in
theorem a201_934 {X : SX} {ls : LS0} {st : List Value} {σ : SH} {x y : Int32} : exD X 201 934 ls (.int y :: .int x :: st) σ = if x = y then exD X 201 1251 ls st σ else exD X 201 937 ls st σ := g_if_icmp_eq rfl
set_option maxRecDepth 100000 in
theorem a201_937 {X : SX} {ls : LS0} {st : List Value} {σ : SH} : exD X 201 937 ls st σ = exD X 201 938 ls (.int 0 :: st) σ := g_iconst rfl
set_option maxRecDepth 100000 in
theorem a201_938 {X : SX} {ls : LS0} {σ : SH} {x : Int32} : exD X 201 938 ls [.int x] σ = if x = 0 ∨ x = 1 then some (some (.int x), σ) else none := g_zret rfl rfl
set_option maxRecDepth 100000 in
theorem a201_939 {X : SX} {c0 : Option Value} {x : Nat} {t : LS0} {st : List Value} {σ : SH} : exD X 201 939 (c0 :: some (.ref x) :: t) st σ = exD X 201 940 (c0 :: some (.ref x) :: t) (.ref x :: st) σ := g_aload_1 rfl
set_option maxRecDepth 100000 in
theorem a201_940 {X : SX} {x : Nat} {t : LS0} {st : List Value} {σ : SH} : exD X 201 940 (some (.ref x) :: t) st σ = exD X 201 941 (some (.ref x) :: t) (.ref x :: st) σ := g_aload_0 rfl
set_option maxRecDepth 100000 in
theorem a201_941 {X : SX} {c0 c1 c2 : Option Value} {x : Int32} {t : LS0} {st : List Value} {σ : SH} : exD X 201 941 (c0 :: c1 :: c2 :: some (.int x) :: t) st σ = exD X 201 942 (c0 :: c1 :: c2 :: some (.int x) :: t) (.int x :: st) σ := g_iload_3 rfl
set_option maxRecDepth 100000 in
theorem a201_942 {X : SX} {ls : LS0} {st : List Value} {σ : SH} : exD X 201 942 ls st σ = exD X 201 943 ls (.int 1 :: st) σ := g_iconst rfl
set_option maxRecDepth 100000 in
theorem a201_943 {X : SX} {ls : LS0} {st : List Value} {σ : SH} {x y : Int32} : exD X 201 943 ls (.int y :: .int x :: st) σ = exD X 201 944 ls (.int (x + y) :: st) σ := g_iadd rfl
set_option maxRecDepth 100000 in
theorem a201_944 {X : SX} {ls : LS0} {st : List Value} {I : Nat → Nat → Int32} {L : Nat → Nat → Int64} {b : Nat} {i : Int32} (hb : b < 4096) : exD X 201 944 ls (.int i :: .ref b :: st) (ms I L) = iaR (hk (ms I L) b) i (exD X 201 945 ls (.int (I b i.toNatClampNeg) :: st) (ms I L)) := g_iald rfl hb
set_option maxRecDepth 100000 in
theorem a201_945 {X : SX} {ls : LS0} {st : List Value} {I : Nat → Nat → Int32} {L : Nat → Nat → Int64} {w0 : Int32} {b : Nat} (hb : hk (ms I L) b = some (0, 9)) (h8 : cS st ≤ 8) : exD X 201 945 ls (.int w0 :: .ref b :: st) (ms I L) = cR (caD X 99 [.ref b, .int w0] (ms I L)) (fun w s => exD X 201 948 ls (psh w st) s) := g_cv rfl rfl rfl (Nat.le_of_ble_eq_true rfl) h8 hb
set_option maxRecDepth 100000 in
theorem a201_948 {X : SX} {c0 c1 : Option Value} {x : Nat} {t : LS0} {st : List Value} {σ : SH} : exD X 201 948 (c0 :: c1 :: some (.ref x) :: t) st σ = exD X 201 949 (c0 :: c1 :: some (.ref x) :: t) (.ref x :: st) σ := g_aload_2 rfl
set_option maxRecDepth 100000 in
theorem a201_949 {X : SX} {x : Nat} {t : LS0} {st : List Value} {σ : SH} : exD X 201 949 (some (.ref x) :: t) st σ = exD X 201 950 (some (.ref x) :: t) (.ref x :: st) σ := g_aload_0 rfl
set_option maxRecDepth 100000 in
theorem a201_950 {X : SX} {c0 c1 c2 : Option Value} {x : Int32} {t : LS0} {st : List Value} {σ : SH} : exD X 201 950 (c0 :: c1 :: c2 :: some (.int x) :: t) st σ = exD X 201 951 (c0 :: c1 :: c2 :: some (.int x) :: t) (.int x :: st) σ := g_iload_3 rfl
set_option maxRecDepth 100000 in
theorem a201_951 {X : SX} {ls : LS0} {st : List Value} {σ : SH} : exD X 201 951 ls st σ = exD X 201 952 ls (.int 1 :: st) σ := g_iconst rfl
set_option maxRecDepth 100000 in
theorem a201_952 {X : SX} {ls : LS0} {st : List Value} {σ : SH} {x y : Int32} : exD X 201 952 ls (.int y :: .int x :: st) σ = exD X 201 953 ls (.int (x + y) :: st) σ := g_iadd rfl
set_option maxRecDepth 100000 in
theorem a201_953 {X : SX} {ls : LS0} {st : List Value} {I : Nat → Nat → Int32} {L : Nat → Nat → Int64} {b : Nat} {i : Int32} (hb : b < 4096) : exD X 201 953 ls (.int i :: .ref b :: st) (ms I L) = iaR (hk (ms I L) b) i (exD X 201 954 ls (.int (I b i.toNatClampNeg) :: st) (ms I L)) := g_iald rfl hb
set_option maxRecDepth 100000 in
theorem a201_954 {X : SX} {ls : LS0} {st : List Value} {I : Nat → Nat → Int32} {L : Nat → Nat → Int64} {w0 : Int32} {b : Nat} (hb : hk (ms I L) b = some (0, 10)) (h8 : cS st ≤ 8) : exD X 201 954 ls (.int w0 :: .ref b :: st) (ms I L) = cR (caD X 187 [.ref b, .int w0] (ms I L)) (fun w s => exD X 201 957 ls (psh w st) s) := g_cv rfl rfl rfl (Nat.le_of_ble_eq_true rfl) h8 hb
set_option maxRecDepth 100000 in
theorem a201_957 {X : SX} {ls : LS0} {st : List Value} {σ : SH} {x y : Int32} : exD X 201 957 ls (.int y :: .int x :: st) σ = if x = y then exD X 201 1251 ls st σ else exD X 201 960 ls st σ := g_if_icmp_eq rfl
set_option maxRecDepth 100000 in
theorem a201_960 {X : SX} {ls : LS0} {st : List Value} {σ : SH} : exD X 201 960 ls st σ = exD X 201 961 ls (.int 0 :: st) σ := g_iconst rfl
set_option maxRecDepth 100000 in
theorem a201_961 {X : SX} {ls : LS0} {σ : SH} {x : Int32} : exD X 201 961 ls [.int x] σ = if x = 0 ∨ x = 1 then some (some (.int x), σ) else none := g_zret rfl rfl
set_option maxRecDepth 100000 in
theorem a201_962 {X : SX} {c0 : Option Value} {x : Nat} {t : LS0} {st : List Value} {σ : SH} : exD X 201 962 (c0 :: some (.ref x) :: t) st σ = exD X 201 963 (c0 :: some (.ref x) :: t) (.ref x :: st) σ := g_aload_1 rfl
set_option maxRecDepth 100000 in
theorem a201_963 {X : SX} {x : Nat} {t : LS0} {st : List Value} {σ : SH} : exD X 201 963 (some (.ref x) :: t) st σ = exD X 201 964 (some (.ref x) :: t) (.ref x :: st) σ := g_aload_0 rfl
set_option maxRecDepth 100000 in
theorem a201_964 {X : SX} {c0 c1 c2 : Option Value} {x : Int32} {t : LS0} {st : List Value} {σ : SH} : exD X 201 964 (c0 :: c1 :: c2 :: some (.int x) :: t) st σ = exD X 201 965 (c0 :: c1 :: c2 :: some (.int x) :: t) (.int x :: st) σ := g_iload_3 rfl
set_option maxRecDepth 100000 in
theorem a201_965 {X : SX} {ls : LS0} {st : List Value} {σ : SH} : exD X 201 965 ls st σ = exD X 201 966 ls (.int 1 :: st) σ := g_iconst rfl
set_option maxRecDepth 100000 in
theorem a201_966 {X : SX} {ls : LS0} {st : List Value} {σ : SH} {x y : Int32} : exD X 201 966 ls (.int y :: .int x :: st) σ = exD X 201 967 ls (.int (x + y) :: st) σ := g_iadd rfl
set_option maxRecDepth 100000 in
theorem a201_967 {X : SX} {ls : LS0} {st : List Value} {I : Nat → Nat → Int32} {L : Nat → Nat → Int64} {b : Nat} {i : Int32} (hb : b < 4096) : exD X 201 967 ls (.int i :: .ref b :: st) (ms I L) = iaR (hk (ms I L) b) i (exD X 201 968 ls (.int (I b i.toNatClampNeg) :: st) (ms I L)) := g_iald rfl hb
set_option maxRecDepth 100000 in
theorem a201_968 {X : SX} {x : Nat} {t : LS0} {st : List Value} {σ : SH} : exD X 201 968 (some (.ref x) :: t) st σ = exD X 201 969 (some (.ref x) :: t) (.ref x :: st) σ := g_aload_0 rfl
set_option maxRecDepth 100000 in
theorem a201_969 {X : SX} {c0 c1 c2 : Option Value} {x : Int32} {t : LS0} {st : List Value} {σ : SH} : exD X 201 969 (c0 :: c1 :: c2 :: some (.int x) :: t) st σ = exD X 201 970 (c0 :: c1 :: c2 :: some (.int x) :: t) (.int x :: st) σ := g_iload_3 rfl
set_option maxRecDepth 100000 in
theorem a201_970 {X : SX} {ls : LS0} {st : List Value} {σ : SH} : exD X 201 970 ls st σ = exD X 201 971 ls (.int 2 :: st) σ := g_iconst rfl
set_option maxRecDepth 100000 in
theorem a201_971 {X : SX} {ls : LS0} {st : List Value} {σ : SH} {x y : Int32} : exD X 201 971 ls (.int y :: .int x :: st) σ = exD X 201 972 ls (.int (x + y) :: st) σ := g_iadd rfl
set_option maxRecDepth 100000 in
theorem a201_972 {X : SX} {ls : LS0} {st : List Value} {I : Nat → Nat → Int32} {L : Nat → Nat → Int64} {b : Nat} {i : Int32} (hb : b < 4096) : exD X 201 972 ls (.int i :: .ref b :: st) (ms I L) = iaR (hk (ms I L) b) i (exD X 201 973 ls (.int (I b i.toNatClampNeg) :: st) (ms I L)) := g_iald rfl hb
set_option maxRecDepth 100000 in
theorem a201_973 {X : SX} {x : Nat} {t : LS0} {st : List Value} {σ : SH} : exD X 201 973 (some (.ref x) :: t) st σ = exD X 201 974 (some (.ref x) :: t) (.ref x :: st) σ := g_aload_0 rfl
set_option maxRecDepth 100000 in
theorem a201_974 {X : SX} {c0 c1 c2 : Option Value} {x : Int32} {t : LS0} {st : List Value} {σ : SH} : exD X 201 974 (c0 :: c1 :: c2 :: some (.int x) :: t) st σ = exD X 201 975 (c0 :: c1 :: c2 :: some (.int x) :: t) (.int x :: st) σ := g_iload_3 rfl
set_option maxRecDepth 100000 in
theorem a201_975 {X : SX} {ls : LS0} {st : List Value} {σ : SH} : exD X 201 975 ls st σ = exD X 201 976 ls (.int 3 :: st) σ := g_iconst rfl
set_option maxRecDepth 100000 in
theorem a201_976 {X : SX} {ls : LS0} {st : List Value} {σ : SH} {x y : Int32} : exD X 201 976 ls (.int y :: .int x :: st) σ = exD X 201 977 ls (.int (x + y) :: st) σ := g_iadd rfl
set_option maxRecDepth 100000 in
theorem a201_977 {X : SX} {ls : LS0} {st : List Value} {I : Nat → Nat → Int32} {L : Nat → Nat → Int64} {b : Nat} {i : Int32} (hb : b < 4096) : exD X 201 977 ls (.int i :: .ref b :: st) (ms I L) = iaR (hk (ms I L) b) i (exD X 201 978 ls (.int (I b i.toNatClampNeg) :: st) (ms I L)) := g_iald rfl hb
set_option maxRecDepth 100000 in
theorem a201_978 {X : SX} {ls : LS0} {st : List Value} {I : Nat → Nat → Int32} {L : Nat → Nat → Int64} {w0 : Int32} {w1 : Int32} {w2 : Int32} {b : Nat} (hb : hk (ms I L) b = some (0, 9)) (h8 : cS st ≤ 8) : exD X 201 978 ls (.int w2 :: .int w1 :: .int w0 :: .ref b :: st) (ms I L) = cR (caD X 100 [.ref b, .int w0, .int w1, .int w2] (ms I L)) (fun w s => exD X 201 981 ls (psh w st) s) := g_cv rfl rfl rfl (Nat.le_of_ble_eq_true rfl) h8 hb
set_option maxRecDepth 100000 in
theorem a201_981 {X : SX} {c0 c1 : Option Value} {x : Nat} {t : LS0} {st : List Value} {σ : SH} : exD X 201 981 (c0 :: c1 :: some (.ref x) :: t) st σ = exD X 201 982 (c0 :: c1 :: some (.ref x) :: t) (.ref x :: st) σ := g_aload_2 rfl
set_option maxRecDepth 100000 in
theorem a201_982 {X : SX} {x : Nat} {t : LS0} {st : List Value} {σ : SH} : exD X 201 982 (some (.ref x) :: t) st σ = exD X 201 983 (some (.ref x) :: t) (.ref x :: st) σ := g_aload_0 rfl
set_option maxRecDepth 100000 in
theorem a201_983 {X : SX} {c0 c1 c2 : Option Value} {x : Int32} {t : LS0} {st : List Value} {σ : SH} : exD X 201 983 (c0 :: c1 :: c2 :: some (.int x) :: t) st σ = exD X 201 984 (c0 :: c1 :: c2 :: some (.int x) :: t) (.int x :: st) σ := g_iload_3 rfl
set_option maxRecDepth 100000 in
theorem a201_984 {X : SX} {ls : LS0} {st : List Value} {σ : SH} : exD X 201 984 ls st σ = exD X 201 985 ls (.int 1 :: st) σ := g_iconst rfl
set_option maxRecDepth 100000 in
theorem a201_985 {X : SX} {ls : LS0} {st : List Value} {σ : SH} {x y : Int32} : exD X 201 985 ls (.int y :: .int x :: st) σ = exD X 201 986 ls (.int (x + y) :: st) σ := g_iadd rfl
set_option maxRecDepth 100000 in
theorem a201_986 {X : SX} {ls : LS0} {st : List Value} {I : Nat → Nat → Int32} {L : Nat → Nat → Int64} {b : Nat} {i : Int32} (hb : b < 4096) : exD X 201 986 ls (.int i :: .ref b :: st) (ms I L) = iaR (hk (ms I L) b) i (exD X 201 987 ls (.int (I b i.toNatClampNeg) :: st) (ms I L)) := g_iald rfl hb
set_option maxRecDepth 100000 in
theorem a201_987 {X : SX} {x : Nat} {t : LS0} {st : List Value} {σ : SH} : exD X 201 987 (some (.ref x) :: t) st σ = exD X 201 988 (some (.ref x) :: t) (.ref x :: st) σ := g_aload_0 rfl
set_option maxRecDepth 100000 in
theorem a201_988 {X : SX} {c0 c1 c2 : Option Value} {x : Int32} {t : LS0} {st : List Value} {σ : SH} : exD X 201 988 (c0 :: c1 :: c2 :: some (.int x) :: t) st σ = exD X 201 989 (c0 :: c1 :: c2 :: some (.int x) :: t) (.int x :: st) σ := g_iload_3 rfl
set_option maxRecDepth 100000 in
theorem a201_989 {X : SX} {ls : LS0} {st : List Value} {σ : SH} : exD X 201 989 ls st σ = exD X 201 990 ls (.int 2 :: st) σ := g_iconst rfl
set_option maxRecDepth 100000 in
theorem a201_990 {X : SX} {ls : LS0} {st : List Value} {σ : SH} {x y : Int32} : exD X 201 990 ls (.int y :: .int x :: st) σ = exD X 201 991 ls (.int (x + y) :: st) σ := g_iadd rfl
set_option maxRecDepth 100000 in
theorem a201_991 {X : SX} {ls : LS0} {st : List Value} {I : Nat → Nat → Int32} {L : Nat → Nat → Int64} {b : Nat} {i : Int32} (hb : b < 4096) : exD X 201 991 ls (.int i :: .ref b :: st) (ms I L) = iaR (hk (ms I L) b) i (exD X 201 992 ls (.int (I b i.toNatClampNeg) :: st) (ms I L)) := g_iald rfl hb
set_option maxRecDepth 100000 in
theorem a201_992 {X : SX} {x : Nat} {t : LS0} {st : List Value} {σ : SH} : exD X 201 992 (some (.ref x) :: t) st σ = exD X 201 993 (some (.ref x) :: t) (.ref x :: st) σ := g_aload_0 rfl
set_option maxRecDepth 100000 in
theorem a201_993 {X : SX} {c0 c1 c2 : Option Value} {x : Int32} {t : LS0} {st : List Value} {σ : SH} : exD X 201 993 (c0 :: c1 :: c2 :: some (.int x) :: t) st σ = exD X 201 994 (c0 :: c1 :: c2 :: some (.int x) :: t) (.int x :: st) σ := g_iload_3 rfl
set_option maxRecDepth 100000 in
theorem a201_994 {X : SX} {ls : LS0} {st : List Value} {σ : SH} : exD X 201 994 ls st σ = exD X 201 995 ls (.int 3 :: st) σ := g_iconst rfl
set_option maxRecDepth 100000 in
theorem a201_995 {X : SX} {ls : LS0} {st : List Value} {σ : SH} {x y : Int32} : exD X 201 995 ls (.int y :: .int x :: st) σ = exD X 201 996 ls (.int (x + y) :: st) σ := g_iadd rfl
set_option maxRecDepth 100000 in
theorem a201_996 {X : SX} {ls : LS0} {st : List Value} {I : Nat → Nat → Int32} {L : Nat → Nat → Int64} {b : Nat} {i : Int32} (hb : b < 4096) : exD X 201 996 ls (.int i :: .ref b :: st) (ms I L) = iaR (hk (ms I L) b) i (exD X 201 997 ls (.int (I b i.toNatClampNeg) :: st) (ms I L)) := g_iald rfl hb
set_option maxRecDepth 100000 in
theorem a201_997 {X : SX} {ls : LS0} {st : List Value} {I : Nat → Nat → Int32} {L : Nat → Nat → Int64} {w0 : Int32} {w1 : Int32} {w2 : Int32} {b : Nat} (hb : hk (ms I L) b = some (0, 10)) (h8 : cS st ≤ 8) : exD X 201 997 ls (.int w2 :: .int w1 :: .int w0 :: .ref b :: st) (ms I L) = cR (caD X 188 [.ref b, .int w0, .int w1, .int w2] (ms I L)) (fun w s => exD X 201 1000 ls (psh w st) s) := g_cv rfl rfl rfl (Nat.le_of_ble_eq_true rfl) h8 hb
set_option maxRecDepth 100000 in
theorem a201_1000 {X : SX} {ls : LS0} {st : List Value} {σ : SH} {x y : Int32} : exD X 201 1000 ls (.int y :: .int x :: st) σ = if x = y then exD X 201 1251 ls st σ else exD X 201 1003 ls st σ := g_if_icmp_eq rfl
set_option maxRecDepth 100000 in
theorem a201_1003 {X : SX} {ls : LS0} {st : List Value} {σ : SH} : exD X 201 1003 ls st σ = exD X 201 1004 ls (.int 0 :: st) σ := g_iconst rfl
set_option maxRecDepth 100000 in
theorem a201_1004 {X : SX} {ls : LS0} {σ : SH} {x : Int32} : exD X 201 1004 ls [.int x] σ = if x = 0 ∨ x = 1 then some (some (.int x), σ) else none := g_zret rfl rfl
set_option maxRecDepth 100000 in
theorem a201_1005 {X : SX} {c0 : Option Value} {x : Nat} {t : LS0} {st : List Value} {σ : SH} : exD X 201 1005 (c0 :: some (.ref x) :: t) st σ = exD X 201 1006 (c0 :: some (.ref x) :: t) (.ref x :: st) σ := g_aload_1 rfl
set_option maxRecDepth 100000 in
theorem a201_1006 {X : SX} {x : Nat} {t : LS0} {st : List Value} {σ : SH} : exD X 201 1006 (some (.ref x) :: t) st σ = exD X 201 1007 (some (.ref x) :: t) (.ref x :: st) σ := g_aload_0 rfl
set_option maxRecDepth 100000 in
theorem a201_1007 {X : SX} {c0 c1 c2 : Option Value} {x : Int32} {t : LS0} {st : List Value} {σ : SH} : exD X 201 1007 (c0 :: c1 :: c2 :: some (.int x) :: t) st σ = exD X 201 1008 (c0 :: c1 :: c2 :: some (.int x) :: t) (.int x :: st) σ := g_iload_3 rfl
set_option maxRecDepth 100000 in
theorem a201_1008 {X : SX} {ls : LS0} {st : List Value} {σ : SH} : exD X 201 1008 ls st σ = exD X 201 1009 ls (.int 1 :: st) σ := g_iconst rfl
set_option maxRecDepth 100000 in
theorem a201_1009 {X : SX} {ls : LS0} {st : List Value} {σ : SH} {x y : Int32} : exD X 201 1009 ls (.int y :: .int x :: st) σ = exD X 201 1010 ls (.int (x + y) :: st) σ := g_iadd rfl
set_option maxRecDepth 100000 in
theorem a201_1010 {X : SX} {ls : LS0} {st : List Value} {I : Nat → Nat → Int32} {L : Nat → Nat → Int64} {b : Nat} {i : Int32} (hb : b < 4096) : exD X 201 1010 ls (.int i :: .ref b :: st) (ms I L) = iaR (hk (ms I L) b) i (exD X 201 1011 ls (.int (I b i.toNatClampNeg) :: st) (ms I L)) := g_iald rfl hb
set_option maxRecDepth 100000 in
theorem a201_1011 {X : SX} {x : Nat} {t : LS0} {st : List Value} {σ : SH} : exD X 201 1011 (some (.ref x) :: t) st σ = exD X 201 1012 (some (.ref x) :: t) (.ref x :: st) σ := g_aload_0 rfl
set_option maxRecDepth 100000 in
theorem a201_1012 {X : SX} {c0 c1 c2 : Option Value} {x : Int32} {t : LS0} {st : List Value} {σ : SH} : exD X 201 1012 (c0 :: c1 :: c2 :: some (.int x) :: t) st σ = exD X 201 1013 (c0 :: c1 :: c2 :: some (.int x) :: t) (.int x :: st) σ := g_iload_3 rfl
set_option maxRecDepth 100000 in
theorem a201_1013 {X : SX} {ls : LS0} {st : List Value} {σ : SH} : exD X 201 1013 ls st σ = exD X 201 1014 ls (.int 2 :: st) σ := g_iconst rfl
set_option maxRecDepth 100000 in
theorem a201_1014 {X : SX} {ls : LS0} {st : List Value} {σ : SH} {x y : Int32} : exD X 201 1014 ls (.int y :: .int x :: st) σ = exD X 201 1015 ls (.int (x + y) :: st) σ := g_iadd rfl
set_option maxRecDepth 100000 in
theorem a201_1015 {X : SX} {ls : LS0} {st : List Value} {I : Nat → Nat → Int32} {L : Nat → Nat → Int64} {b : Nat} {i : Int32} (hb : b < 4096) : exD X 201 1015 ls (.int i :: .ref b :: st) (ms I L) = iaR (hk (ms I L) b) i (exD X 201 1016 ls (.int (I b i.toNatClampNeg) :: st) (ms I L)) := g_iald rfl hb
set_option maxRecDepth 100000 in
theorem a201_1016 {X : SX} {x : Nat} {t : LS0} {st : List Value} {σ : SH} : exD X 201 1016 (some (.ref x) :: t) st σ = exD X 201 1017 (some (.ref x) :: t) (.ref x :: st) σ := g_aload_0 rfl
set_option maxRecDepth 100000 in
theorem a201_1017 {X : SX} {c0 c1 c2 : Option Value} {x : Int32} {t : LS0} {st : List Value} {σ : SH} : exD X 201 1017 (c0 :: c1 :: c2 :: some (.int x) :: t) st σ = exD X 201 1018 (c0 :: c1 :: c2 :: some (.int x) :: t) (.int x :: st) σ := g_iload_3 rfl
set_option maxRecDepth 100000 in
theorem a201_1018 {X : SX} {ls : LS0} {st : List Value} {σ : SH} : exD X 201 1018 ls st σ = exD X 201 1019 ls (.int 3 :: st) σ := g_iconst rfl
set_option maxRecDepth 100000 in
theorem a201_1019 {X : SX} {ls : LS0} {st : List Value} {σ : SH} {x y : Int32} : exD X 201 1019 ls (.int y :: .int x :: st) σ = exD X 201 1020 ls (.int (x + y) :: st) σ := g_iadd rfl
set_option maxRecDepth 100000 in
theorem a201_1020 {X : SX} {ls : LS0} {st : List Value} {I : Nat → Nat → Int32} {L : Nat → Nat → Int64} {b : Nat} {i : Int32} (hb : b < 4096) : exD X 201 1020 ls (.int i :: .ref b :: st) (ms I L) = iaR (hk (ms I L) b) i (exD X 201 1021 ls (.int (I b i.toNatClampNeg) :: st) (ms I L)) := g_iald rfl hb
set_option maxRecDepth 100000 in
theorem a201_1021 {X : SX} {x : Nat} {t : LS0} {st : List Value} {σ : SH} : exD X 201 1021 (some (.ref x) :: t) st σ = exD X 201 1022 (some (.ref x) :: t) (.ref x :: st) σ := g_aload_0 rfl
set_option maxRecDepth 100000 in
theorem a201_1022 {X : SX} {c0 c1 c2 : Option Value} {x : Int32} {t : LS0} {st : List Value} {σ : SH} : exD X 201 1022 (c0 :: c1 :: c2 :: some (.int x) :: t) st σ = exD X 201 1023 (c0 :: c1 :: c2 :: some (.int x) :: t) (.int x :: st) σ := g_iload_3 rfl
set_option maxRecDepth 100000 in
theorem a201_1023 {X : SX} {ls : LS0} {st : List Value} {σ : SH} : exD X 201 1023 ls st σ = exD X 201 1024 ls (.int 4 :: st) σ := g_iconst rfl
set_option maxRecDepth 100000 in
theorem a201_1024 {X : SX} {ls : LS0} {st : List Value} {σ : SH} {x y : Int32} : exD X 201 1024 ls (.int y :: .int x :: st) σ = exD X 201 1025 ls (.int (x + y) :: st) σ := g_iadd rfl
set_option maxRecDepth 100000 in
theorem a201_1025 {X : SX} {ls : LS0} {st : List Value} {I : Nat → Nat → Int32} {L : Nat → Nat → Int64} {b : Nat} {i : Int32} (hb : b < 4096) : exD X 201 1025 ls (.int i :: .ref b :: st) (ms I L) = iaR (hk (ms I L) b) i (exD X 201 1026 ls (.int (I b i.toNatClampNeg) :: st) (ms I L)) := g_iald rfl hb
set_option maxRecDepth 100000 in
theorem a201_1026 {X : SX} {ls : LS0} {st : List Value} {I : Nat → Nat → Int32} {L : Nat → Nat → Int64} {w0 : Int32} {w1 : Int32} {w2 : Int32} {w3 : Int32} {b : Nat} (hb : hk (ms I L) b = some (0, 9)) (h8 : cS st ≤ 8) : exD X 201 1026 ls (.int w3 :: .int w2 :: .int w1 :: .int w0 :: .ref b :: st) (ms I L) = cR (caD X 101 [.ref b, .int w0, .int w1, .int w2, .int w3] (ms I L)) (fun w s => exD X 201 1029 ls (psh w st) s) := g_cv rfl rfl rfl (Nat.le_of_ble_eq_true rfl) h8 hb
set_option maxRecDepth 100000 in
theorem a201_1029 {X : SX} {c0 c1 : Option Value} {x : Nat} {t : LS0} {st : List Value} {σ : SH} : exD X 201 1029 (c0 :: c1 :: some (.ref x) :: t) st σ = exD X 201 1030 (c0 :: c1 :: some (.ref x) :: t) (.ref x :: st) σ := g_aload_2 rfl
set_option maxRecDepth 100000 in
theorem a201_1030 {X : SX} {x : Nat} {t : LS0} {st : List Value} {σ : SH} : exD X 201 1030 (some (.ref x) :: t) st σ = exD X 201 1031 (some (.ref x) :: t) (.ref x :: st) σ := g_aload_0 rfl
set_option maxRecDepth 100000 in
theorem a201_1031 {X : SX} {c0 c1 c2 : Option Value} {x : Int32} {t : LS0} {st : List Value} {σ : SH} : exD X 201 1031 (c0 :: c1 :: c2 :: some (.int x) :: t) st σ = exD X 201 1032 (c0 :: c1 :: c2 :: some (.int x) :: t) (.int x :: st) σ := g_iload_3 rfl
set_option maxRecDepth 100000 in
theorem a201_1032 {X : SX} {ls : LS0} {st : List Value} {σ : SH} : exD X 201 1032 ls st σ = exD X 201 1033 ls (.int 1 :: st) σ := g_iconst rfl
set_option maxRecDepth 100000 in
theorem a201_1033 {X : SX} {ls : LS0} {st : List Value} {σ : SH} {x y : Int32} : exD X 201 1033 ls (.int y :: .int x :: st) σ = exD X 201 1034 ls (.int (x + y) :: st) σ := g_iadd rfl
set_option maxRecDepth 100000 in
theorem a201_1034 {X : SX} {ls : LS0} {st : List Value} {I : Nat → Nat → Int32} {L : Nat → Nat → Int64} {b : Nat} {i : Int32} (hb : b < 4096) : exD X 201 1034 ls (.int i :: .ref b :: st) (ms I L) = iaR (hk (ms I L) b) i (exD X 201 1035 ls (.int (I b i.toNatClampNeg) :: st) (ms I L)) := g_iald rfl hb
set_option maxRecDepth 100000 in
theorem a201_1035 {X : SX} {x : Nat} {t : LS0} {st : List Value} {σ : SH} : exD X 201 1035 (some (.ref x) :: t) st σ = exD X 201 1036 (some (.ref x) :: t) (.ref x :: st) σ := g_aload_0 rfl
set_option maxRecDepth 100000 in
theorem a201_1036 {X : SX} {c0 c1 c2 : Option Value} {x : Int32} {t : LS0} {st : List Value} {σ : SH} : exD X 201 1036 (c0 :: c1 :: c2 :: some (.int x) :: t) st σ = exD X 201 1037 (c0 :: c1 :: c2 :: some (.int x) :: t) (.int x :: st) σ := g_iload_3 rfl
set_option maxRecDepth 100000 in
theorem a201_1037 {X : SX} {ls : LS0} {st : List Value} {σ : SH} : exD X 201 1037 ls st σ = exD X 201 1038 ls (.int 2 :: st) σ := g_iconst rfl
set_option maxRecDepth 100000 in
theorem a201_1038 {X : SX} {ls : LS0} {st : List Value} {σ : SH} {x y : Int32} : exD X 201 1038 ls (.int y :: .int x :: st) σ = exD X 201 1039 ls (.int (x + y) :: st) σ := g_iadd rfl
set_option maxRecDepth 100000 in
theorem a201_1039 {X : SX} {ls : LS0} {st : List Value} {I : Nat → Nat → Int32} {L : Nat → Nat → Int64} {b : Nat} {i : Int32} (hb : b < 4096) : exD X 201 1039 ls (.int i :: .ref b :: st) (ms I L) = iaR (hk (ms I L) b) i (exD X 201 1040 ls (.int (I b i.toNatClampNeg) :: st) (ms I L)) := g_iald rfl hb
set_option maxRecDepth 100000 in
theorem a201_1040 {X : SX} {x : Nat} {t : LS0} {st : List Value} {σ : SH} : exD X 201 1040 (some (.ref x) :: t) st σ = exD X 201 1041 (some (.ref x) :: t) (.ref x :: st) σ := g_aload_0 rfl
set_option maxRecDepth 100000 in
theorem a201_1041 {X : SX} {c0 c1 c2 : Option Value} {x : Int32} {t : LS0} {st : List Value} {σ : SH} : exD X 201 1041 (c0 :: c1 :: c2 :: some (.int x) :: t) st σ = exD X 201 1042 (c0 :: c1 :: c2 :: some (.int x) :: t) (.int x :: st) σ := g_iload_3 rfl
set_option maxRecDepth 100000 in
theorem a201_1042 {X : SX} {ls : LS0} {st : List Value} {σ : SH} : exD X 201 1042 ls st σ = exD X 201 1043 ls (.int 3 :: st) σ := g_iconst rfl
set_option maxRecDepth 100000 in
theorem a201_1043 {X : SX} {ls : LS0} {st : List Value} {σ : SH} {x y : Int32} : exD X 201 1043 ls (.int y :: .int x :: st) σ = exD X 201 1044 ls (.int (x + y) :: st) σ := g_iadd rfl
set_option maxRecDepth 100000 in
theorem a201_1044 {X : SX} {ls : LS0} {st : List Value} {I : Nat → Nat → Int32} {L : Nat → Nat → Int64} {b : Nat} {i : Int32} (hb : b < 4096) : exD X 201 1044 ls (.int i :: .ref b :: st) (ms I L) = iaR (hk (ms I L) b) i (exD X 201 1045 ls (.int (I b i.toNatClampNeg) :: st) (ms I L)) := g_iald rfl hb
set_option maxRecDepth 100000 in
theorem a201_1045 {X : SX} {x : Nat} {t : LS0} {st : List Value} {σ : SH} : exD X 201 1045 (some (.ref x) :: t) st σ = exD X 201 1046 (some (.ref x) :: t) (.ref x :: st) σ := g_aload_0 rfl
set_option maxRecDepth 100000 in
theorem a201_1046 {X : SX} {c0 c1 c2 : Option Value} {x : Int32} {t : LS0} {st : List Value} {σ : SH} : exD X 201 1046 (c0 :: c1 :: c2 :: some (.int x) :: t) st σ = exD X 201 1047 (c0 :: c1 :: c2 :: some (.int x) :: t) (.int x :: st) σ := g_iload_3 rfl
set_option maxRecDepth 100000 in
theorem a201_1047 {X : SX} {ls : LS0} {st : List Value} {σ : SH} : exD X 201 1047 ls st σ = exD X 201 1048 ls (.int 4 :: st) σ := g_iconst rfl
set_option maxRecDepth 100000 in
theorem a201_1048 {X : SX} {ls : LS0} {st : List Value} {σ : SH} {x y : Int32} : exD X 201 1048 ls (.int y :: .int x :: st) σ = exD X 201 1049 ls (.int (x + y) :: st) σ := g_iadd rfl
set_option maxRecDepth 100000 in
theorem a201_1049 {X : SX} {ls : LS0} {st : List Value} {I : Nat → Nat → Int32} {L : Nat → Nat → Int64} {b : Nat} {i : Int32} (hb : b < 4096) : exD X 201 1049 ls (.int i :: .ref b :: st) (ms I L) = iaR (hk (ms I L) b) i (exD X 201 1050 ls (.int (I b i.toNatClampNeg) :: st) (ms I L)) := g_iald rfl hb
set_option maxRecDepth 100000 in
theorem a201_1050 {X : SX} {ls : LS0} {st : List Value} {I : Nat → Nat → Int32} {L : Nat → Nat → Int64} {w0 : Int32} {w1 : Int32} {w2 : Int32} {w3 : Int32} {b : Nat} (hb : hk (ms I L) b = some (0, 10)) (h8 : cS st ≤ 8) : exD X 201 1050 ls (.int w3 :: .int w2 :: .int w1 :: .int w0 :: .ref b :: st) (ms I L) = cR (caD X 193 [.ref b, .int w0, .int w1, .int w2, .int w3] (ms I L)) (fun w s => exD X 201 1053 ls (psh w st) s) := g_cv rfl rfl rfl (Nat.le_of_ble_eq_true rfl) h8 hb
set_option maxRecDepth 100000 in
theorem a201_1053 {X : SX} {ls : LS0} {st : List Value} {σ : SH} {x y : Int64} : exD X 201 1053 ls (.long y :: .long x :: st) σ = exD X 201 1054 ls (.int (lg_cmp x y) :: st) σ := g_lcmp rfl
set_option maxRecDepth 100000 in
theorem a201_1054 {X : SX} {ls : LS0} {st : List Value} {σ : SH} {x : Int32} : exD X 201 1054 ls (.int x :: st) σ = if x = 0 then exD X 201 1251 ls st σ else exD X 201 1057 ls st σ := g_ifCond_eq rfl
set_option maxRecDepth 100000 in
theorem a201_1057 {X : SX} {ls : LS0} {st : List Value} {σ : SH} : exD X 201 1057 ls st σ = exD X 201 1058 ls (.int 0 :: st) σ := g_iconst rfl
set_option maxRecDepth 100000 in
theorem a201_1058 {X : SX} {ls : LS0} {σ : SH} {x : Int32} : exD X 201 1058 ls [.int x] σ = if x = 0 ∨ x = 1 then some (some (.int x), σ) else none := g_zret rfl rfl
set_option maxRecDepth 100000 in
theorem a201_1059 {X : SX} {c0 : Option Value} {x : Nat} {t : LS0} {st : List Value} {σ : SH} : exD X 201 1059 (c0 :: some (.ref x) :: t) st σ = exD X 201 1060 (c0 :: some (.ref x) :: t) (.ref x :: st) σ := g_aload_1 rfl
set_option maxRecDepth 100000 in
theorem a201_1060 {X : SX} {x : Nat} {t : LS0} {st : List Value} {σ : SH} : exD X 201 1060 (some (.ref x) :: t) st σ = exD X 201 1061 (some (.ref x) :: t) (.ref x :: st) σ := g_aload_0 rfl
set_option maxRecDepth 100000 in
theorem a201_1061 {X : SX} {c0 c1 c2 : Option Value} {x : Int32} {t : LS0} {st : List Value} {σ : SH} : exD X 201 1061 (c0 :: c1 :: c2 :: some (.int x) :: t) st σ = exD X 201 1062 (c0 :: c1 :: c2 :: some (.int x) :: t) (.int x :: st) σ := g_iload_3 rfl
set_option maxRecDepth 100000 in
theorem a201_1062 {X : SX} {ls : LS0} {st : List Value} {σ : SH} : exD X 201 1062 ls st σ = exD X 201 1063 ls (.int 1 :: st) σ := g_iconst rfl
set_option maxRecDepth 100000 in
theorem a201_1063 {X : SX} {ls : LS0} {st : List Value} {σ : SH} {x y : Int32} : exD X 201 1063 ls (.int y :: .int x :: st) σ = exD X 201 1064 ls (.int (x + y) :: st) σ := g_iadd rfl
set_option maxRecDepth 100000 in
theorem a201_1064 {X : SX} {ls : LS0} {st : List Value} {I : Nat → Nat → Int32} {L : Nat → Nat → Int64} {b : Nat} {i : Int32} (hb : b < 4096) : exD X 201 1064 ls (.int i :: .ref b :: st) (ms I L) = iaR (hk (ms I L) b) i (exD X 201 1065 ls (.int (I b i.toNatClampNeg) :: st) (ms I L)) := g_iald rfl hb
set_option maxRecDepth 100000 in
theorem a201_1065 {X : SX} {x : Nat} {t : LS0} {st : List Value} {σ : SH} : exD X 201 1065 (some (.ref x) :: t) st σ = exD X 201 1066 (some (.ref x) :: t) (.ref x :: st) σ := g_aload_0 rfl
set_option maxRecDepth 100000 in
theorem a201_1066 {X : SX} {c0 c1 c2 : Option Value} {x : Int32} {t : LS0} {st : List Value} {σ : SH} : exD X 201 1066 (c0 :: c1 :: c2 :: some (.int x) :: t) st σ = exD X 201 1067 (c0 :: c1 :: c2 :: some (.int x) :: t) (.int x :: st) σ := g_iload_3 rfl
set_option maxRecDepth 100000 in
theorem a201_1067 {X : SX} {ls : LS0} {st : List Value} {σ : SH} : exD X 201 1067 ls st σ = exD X 201 1068 ls (.int 2 :: st) σ := g_iconst rfl
set_option maxRecDepth 100000 in
theorem a201_1068 {X : SX} {ls : LS0} {st : List Value} {σ : SH} {x y : Int32} : exD X 201 1068 ls (.int y :: .int x :: st) σ = exD X 201 1069 ls (.int (x + y) :: st) σ := g_iadd rfl
set_option maxRecDepth 100000 in
theorem a201_1069 {X : SX} {ls : LS0} {st : List Value} {I : Nat → Nat → Int32} {L : Nat → Nat → Int64} {b : Nat} {i : Int32} (hb : b < 4096) : exD X 201 1069 ls (.int i :: .ref b :: st) (ms I L) = iaR (hk (ms I L) b) i (exD X 201 1070 ls (.int (I b i.toNatClampNeg) :: st) (ms I L)) := g_iald rfl hb
set_option maxRecDepth 100000 in
theorem a201_1070 {X : SX} {x : Nat} {t : LS0} {st : List Value} {σ : SH} : exD X 201 1070 (some (.ref x) :: t) st σ = exD X 201 1071 (some (.ref x) :: t) (.ref x :: st) σ := g_aload_0 rfl
set_option maxRecDepth 100000 in
theorem a201_1071 {X : SX} {c0 c1 c2 : Option Value} {x : Int32} {t : LS0} {st : List Value} {σ : SH} : exD X 201 1071 (c0 :: c1 :: c2 :: some (.int x) :: t) st σ = exD X 201 1072 (c0 :: c1 :: c2 :: some (.int x) :: t) (.int x :: st) σ := g_iload_3 rfl
set_option maxRecDepth 100000 in
theorem a201_1072 {X : SX} {ls : LS0} {st : List Value} {σ : SH} : exD X 201 1072 ls st σ = exD X 201 1073 ls (.int 3 :: st) σ := g_iconst rfl
set_option maxRecDepth 100000 in
theorem a201_1073 {X : SX} {ls : LS0} {st : List Value} {σ : SH} {x y : Int32} : exD X 201 1073 ls (.int y :: .int x :: st) σ = exD X 201 1074 ls (.int (x + y) :: st) σ := g_iadd rfl
set_option maxRecDepth 100000 in
theorem a201_1074 {X : SX} {ls : LS0} {st : List Value} {I : Nat → Nat → Int32} {L : Nat → Nat → Int64} {b : Nat} {i : Int32} (hb : b < 4096) : exD X 201 1074 ls (.int i :: .ref b :: st) (ms I L) = iaR (hk (ms I L) b) i (exD X 201 1075 ls (.int (I b i.toNatClampNeg) :: st) (ms I L)) := g_iald rfl hb
set_option maxRecDepth 100000 in
theorem a201_1075 {X : SX} {ls : LS0} {st : List Value} {I : Nat → Nat → Int32} {L : Nat → Nat → Int64} {w0 : Int32} {w1 : Int32} {w2 : Int32} {b : Nat} (hb : hk (ms I L) b = some (0, 9)) (h8 : cS st ≤ 8) : exD X 201 1075 ls (.int w2 :: .int w1 :: .int w0 :: .ref b :: st) (ms I L) = cR (caD X 102 [.ref b, .int w0, .int w1, .int w2] (ms I L)) (fun w s => exD X 201 1078 ls (psh w st) s) := g_cv rfl rfl rfl (Nat.le_of_ble_eq_true rfl) h8 hb
set_option maxRecDepth 100000 in
theorem a201_1078 {X : SX} {c0 c1 : Option Value} {x : Nat} {t : LS0} {st : List Value} {σ : SH} : exD X 201 1078 (c0 :: c1 :: some (.ref x) :: t) st σ = exD X 201 1079 (c0 :: c1 :: some (.ref x) :: t) (.ref x :: st) σ := g_aload_2 rfl
set_option maxRecDepth 100000 in
theorem a201_1079 {X : SX} {x : Nat} {t : LS0} {st : List Value} {σ : SH} : exD X 201 1079 (some (.ref x) :: t) st σ = exD X 201 1080 (some (.ref x) :: t) (.ref x :: st) σ := g_aload_0 rfl
set_option maxRecDepth 100000 in
theorem a201_1080 {X : SX} {c0 c1 c2 : Option Value} {x : Int32} {t : LS0} {st : List Value} {σ : SH} : exD X 201 1080 (c0 :: c1 :: c2 :: some (.int x) :: t) st σ = exD X 201 1081 (c0 :: c1 :: c2 :: some (.int x) :: t) (.int x :: st) σ := g_iload_3 rfl
set_option maxRecDepth 100000 in
theorem a201_1081 {X : SX} {ls : LS0} {st : List Value} {σ : SH} : exD X 201 1081 ls st σ = exD X 201 1082 ls (.int 1 :: st) σ := g_iconst rfl
set_option maxRecDepth 100000 in
theorem a201_1082 {X : SX} {ls : LS0} {st : List Value} {σ : SH} {x y : Int32} : exD X 201 1082 ls (.int y :: .int x :: st) σ = exD X 201 1083 ls (.int (x + y) :: st) σ := g_iadd rfl
set_option maxRecDepth 100000 in
theorem a201_1083 {X : SX} {ls : LS0} {st : List Value} {I : Nat → Nat → Int32} {L : Nat → Nat → Int64} {b : Nat} {i : Int32} (hb : b < 4096) : exD X 201 1083 ls (.int i :: .ref b :: st) (ms I L) = iaR (hk (ms I L) b) i (exD X 201 1084 ls (.int (I b i.toNatClampNeg) :: st) (ms I L)) := g_iald rfl hb
set_option maxRecDepth 100000 in
theorem a201_1084 {X : SX} {x : Nat} {t : LS0} {st : List Value} {σ : SH} : exD X 201 1084 (some (.ref x) :: t) st σ = exD X 201 1085 (some (.ref x) :: t) (.ref x :: st) σ := g_aload_0 rfl
set_option maxRecDepth 100000 in
theorem a201_1085 {X : SX} {c0 c1 c2 : Option Value} {x : Int32} {t : LS0} {st : List Value} {σ : SH} : exD X 201 1085 (c0 :: c1 :: c2 :: some (.int x) :: t) st σ = exD X 201 1086 (c0 :: c1 :: c2 :: some (.int x) :: t) (.int x :: st) σ := g_iload_3 rfl
set_option maxRecDepth 100000 in
theorem a201_1086 {X : SX} {ls : LS0} {st : List Value} {σ : SH} : exD X 201 1086 ls st σ = exD X 201 1087 ls (.int 2 :: st) σ := g_iconst rfl
set_option maxRecDepth 100000 in
theorem a201_1087 {X : SX} {ls : LS0} {st : List Value} {σ : SH} {x y : Int32} : exD X 201 1087 ls (.int y :: .int x :: st) σ = exD X 201 1088 ls (.int (x + y) :: st) σ := g_iadd rfl
set_option maxRecDepth 100000 in
theorem a201_1088 {X : SX} {ls : LS0} {st : List Value} {I : Nat → Nat → Int32} {L : Nat → Nat → Int64} {b : Nat} {i : Int32} (hb : b < 4096) : exD X 201 1088 ls (.int i :: .ref b :: st) (ms I L) = iaR (hk (ms I L) b) i (exD X 201 1089 ls (.int (I b i.toNatClampNeg) :: st) (ms I L)) := g_iald rfl hb
set_option maxRecDepth 100000 in
theorem a201_1089 {X : SX} {x : Nat} {t : LS0} {st : List Value} {σ : SH} : exD X 201 1089 (some (.ref x) :: t) st σ = exD X 201 1090 (some (.ref x) :: t) (.ref x :: st) σ := g_aload_0 rfl
set_option maxRecDepth 100000 in
theorem a201_1090 {X : SX} {c0 c1 c2 : Option Value} {x : Int32} {t : LS0} {st : List Value} {σ : SH} : exD X 201 1090 (c0 :: c1 :: c2 :: some (.int x) :: t) st σ = exD X 201 1091 (c0 :: c1 :: c2 :: some (.int x) :: t) (.int x :: st) σ := g_iload_3 rfl
set_option maxRecDepth 100000 in
theorem a201_1091 {X : SX} {ls : LS0} {st : List Value} {σ : SH} : exD X 201 1091 ls st σ = exD X 201 1092 ls (.int 3 :: st) σ := g_iconst rfl
set_option maxRecDepth 100000 in
theorem a201_1092 {X : SX} {ls : LS0} {st : List Value} {σ : SH} {x y : Int32} : exD X 201 1092 ls (.int y :: .int x :: st) σ = exD X 201 1093 ls (.int (x + y) :: st) σ := g_iadd rfl
set_option maxRecDepth 100000 in
theorem a201_1093 {X : SX} {ls : LS0} {st : List Value} {I : Nat → Nat → Int32} {L : Nat → Nat → Int64} {b : Nat} {i : Int32} (hb : b < 4096) : exD X 201 1093 ls (.int i :: .ref b :: st) (ms I L) = iaR (hk (ms I L) b) i (exD X 201 1094 ls (.int (I b i.toNatClampNeg) :: st) (ms I L)) := g_iald rfl hb
set_option maxRecDepth 100000 in
theorem a201_1094 {X : SX} {ls : LS0} {st : List Value} {I : Nat → Nat → Int32} {L : Nat → Nat → Int64} {w0 : Int32} {w1 : Int32} {w2 : Int32} {b : Nat} (hb : hk (ms I L) b = some (0, 10)) (h8 : cS st ≤ 8) : exD X 201 1094 ls (.int w2 :: .int w1 :: .int w0 :: .ref b :: st) (ms I L) = cR (caD X 194 [.ref b, .int w0, .int w1, .int w2] (ms I L)) (fun w s => exD X 201 1097 ls (psh w st) s) := g_cv rfl rfl rfl (Nat.le_of_ble_eq_true rfl) h8 hb
set_option maxRecDepth 100000 in
theorem a201_1097 {X : SX} {ls : LS0} {st : List Value} {σ : SH} {x y : Int64} : exD X 201 1097 ls (.long y :: .long x :: st) σ = exD X 201 1098 ls (.int (lg_cmp x y) :: st) σ := g_lcmp rfl
set_option maxRecDepth 100000 in
theorem a201_1098 {X : SX} {ls : LS0} {st : List Value} {σ : SH} {x : Int32} : exD X 201 1098 ls (.int x :: st) σ = if x = 0 then exD X 201 1251 ls st σ else exD X 201 1101 ls st σ := g_ifCond_eq rfl
set_option maxRecDepth 100000 in
theorem a201_1101 {X : SX} {ls : LS0} {st : List Value} {σ : SH} : exD X 201 1101 ls st σ = exD X 201 1102 ls (.int 0 :: st) σ := g_iconst rfl
set_option maxRecDepth 100000 in
theorem a201_1102 {X : SX} {ls : LS0} {σ : SH} {x : Int32} : exD X 201 1102 ls [.int x] σ = if x = 0 ∨ x = 1 then some (some (.int x), σ) else none := g_zret rfl rfl
set_option maxRecDepth 100000 in
theorem a201_1103 {X : SX} {c0 : Option Value} {x : Nat} {t : LS0} {st : List Value} {σ : SH} : exD X 201 1103 (c0 :: some (.ref x) :: t) st σ = exD X 201 1104 (c0 :: some (.ref x) :: t) (.ref x :: st) σ := g_aload_1 rfl
set_option maxRecDepth 100000 in
theorem a201_1104 {X : SX} {x : Nat} {t : LS0} {st : List Value} {σ : SH} : exD X 201 1104 (some (.ref x) :: t) st σ = exD X 201 1105 (some (.ref x) :: t) (.ref x :: st) σ := g_aload_0 rfl
set_option maxRecDepth 100000 in
theorem a201_1105 {X : SX} {c0 c1 c2 : Option Value} {x : Int32} {t : LS0} {st : List Value} {σ : SH} : exD X 201 1105 (c0 :: c1 :: c2 :: some (.int x) :: t) st σ = exD X 201 1106 (c0 :: c1 :: c2 :: some (.int x) :: t) (.int x :: st) σ := g_iload_3 rfl
set_option maxRecDepth 100000 in
theorem a201_1106 {X : SX} {ls : LS0} {st : List Value} {σ : SH} : exD X 201 1106 ls st σ = exD X 201 1107 ls (.int 1 :: st) σ := g_iconst rfl
set_option maxRecDepth 100000 in
theorem a201_1107 {X : SX} {ls : LS0} {st : List Value} {σ : SH} {x y : Int32} : exD X 201 1107 ls (.int y :: .int x :: st) σ = exD X 201 1108 ls (.int (x + y) :: st) σ := g_iadd rfl
set_option maxRecDepth 100000 in
theorem a201_1108 {X : SX} {ls : LS0} {st : List Value} {I : Nat → Nat → Int32} {L : Nat → Nat → Int64} {b : Nat} {i : Int32} (hb : b < 4096) : exD X 201 1108 ls (.int i :: .ref b :: st) (ms I L) = iaR (hk (ms I L) b) i (exD X 201 1109 ls (.int (I b i.toNatClampNeg) :: st) (ms I L)) := g_iald rfl hb
set_option maxRecDepth 100000 in
theorem a201_1109 {X : SX} {x : Nat} {t : LS0} {st : List Value} {σ : SH} : exD X 201 1109 (some (.ref x) :: t) st σ = exD X 201 1110 (some (.ref x) :: t) (.ref x :: st) σ := g_aload_0 rfl
set_option maxRecDepth 100000 in
theorem a201_1110 {X : SX} {c0 c1 c2 : Option Value} {x : Int32} {t : LS0} {st : List Value} {σ : SH} : exD X 201 1110 (c0 :: c1 :: c2 :: some (.int x) :: t) st σ = exD X 201 1111 (c0 :: c1 :: c2 :: some (.int x) :: t) (.int x :: st) σ := g_iload_3 rfl
set_option maxRecDepth 100000 in
theorem a201_1111 {X : SX} {ls : LS0} {st : List Value} {σ : SH} : exD X 201 1111 ls st σ = exD X 201 1112 ls (.int 2 :: st) σ := g_iconst rfl
set_option maxRecDepth 100000 in
theorem a201_1112 {X : SX} {ls : LS0} {st : List Value} {σ : SH} {x y : Int32} : exD X 201 1112 ls (.int y :: .int x :: st) σ = exD X 201 1113 ls (.int (x + y) :: st) σ := g_iadd rfl
set_option maxRecDepth 100000 in
theorem a201_1113 {X : SX} {ls : LS0} {st : List Value} {I : Nat → Nat → Int32} {L : Nat → Nat → Int64} {b : Nat} {i : Int32} (hb : b < 4096) : exD X 201 1113 ls (.int i :: .ref b :: st) (ms I L) = iaR (hk (ms I L) b) i (exD X 201 1114 ls (.int (I b i.toNatClampNeg) :: st) (ms I L)) := g_iald rfl hb
set_option maxRecDepth 100000 in
theorem a201_1114 {X : SX} {ls : LS0} {st : List Value} {I : Nat → Nat → Int32} {L : Nat → Nat → Int64} {w0 : Int32} {w1 : Int32} {b : Nat} (hb : hk (ms I L) b = some (0, 9)) (h8 : cS st ≤ 8) : exD X 201 1114 ls (.int w1 :: .int w0 :: .ref b :: st) (ms I L) = cR (caD X 103 [.ref b, .int w0, .int w1] (ms I L)) (fun w s => exD X 201 1117 ls (psh w st) s) := g_cv rfl rfl rfl (Nat.le_of_ble_eq_true rfl) h8 hb
set_option maxRecDepth 100000 in
theorem a201_1117 {X : SX} {c0 c1 : Option Value} {x : Nat} {t : LS0} {st : List Value} {σ : SH} : exD X 201 1117 (c0 :: c1 :: some (.ref x) :: t) st σ = exD X 201 1118 (c0 :: c1 :: some (.ref x) :: t) (.ref x :: st) σ := g_aload_2 rfl
set_option maxRecDepth 100000 in
theorem a201_1118 {X : SX} {x : Nat} {t : LS0} {st : List Value} {σ : SH} : exD X 201 1118 (some (.ref x) :: t) st σ = exD X 201 1119 (some (.ref x) :: t) (.ref x :: st) σ := g_aload_0 rfl
set_option maxRecDepth 100000 in
theorem a201_1119 {X : SX} {c0 c1 c2 : Option Value} {x : Int32} {t : LS0} {st : List Value} {σ : SH} : exD X 201 1119 (c0 :: c1 :: c2 :: some (.int x) :: t) st σ = exD X 201 1120 (c0 :: c1 :: c2 :: some (.int x) :: t) (.int x :: st) σ := g_iload_3 rfl
set_option maxRecDepth 100000 in
theorem a201_1120 {X : SX} {ls : LS0} {st : List Value} {σ : SH} : exD X 201 1120 ls st σ = exD X 201 1121 ls (.int 1 :: st) σ := g_iconst rfl
set_option maxRecDepth 100000 in
theorem a201_1121 {X : SX} {ls : LS0} {st : List Value} {σ : SH} {x y : Int32} : exD X 201 1121 ls (.int y :: .int x :: st) σ = exD X 201 1122 ls (.int (x + y) :: st) σ := g_iadd rfl
set_option maxRecDepth 100000 in
theorem a201_1122 {X : SX} {ls : LS0} {st : List Value} {I : Nat → Nat → Int32} {L : Nat → Nat → Int64} {b : Nat} {i : Int32} (hb : b < 4096) : exD X 201 1122 ls (.int i :: .ref b :: st) (ms I L) = iaR (hk (ms I L) b) i (exD X 201 1123 ls (.int (I b i.toNatClampNeg) :: st) (ms I L)) := g_iald rfl hb
set_option maxRecDepth 100000 in
theorem a201_1123 {X : SX} {x : Nat} {t : LS0} {st : List Value} {σ : SH} : exD X 201 1123 (some (.ref x) :: t) st σ = exD X 201 1124 (some (.ref x) :: t) (.ref x :: st) σ := g_aload_0 rfl
set_option maxRecDepth 100000 in
theorem a201_1124 {X : SX} {c0 c1 c2 : Option Value} {x : Int32} {t : LS0} {st : List Value} {σ : SH} : exD X 201 1124 (c0 :: c1 :: c2 :: some (.int x) :: t) st σ = exD X 201 1125 (c0 :: c1 :: c2 :: some (.int x) :: t) (.int x :: st) σ := g_iload_3 rfl
set_option maxRecDepth 100000 in
theorem a201_1125 {X : SX} {ls : LS0} {st : List Value} {σ : SH} : exD X 201 1125 ls st σ = exD X 201 1126 ls (.int 2 :: st) σ := g_iconst rfl
set_option maxRecDepth 100000 in
theorem a201_1126 {X : SX} {ls : LS0} {st : List Value} {σ : SH} {x y : Int32} : exD X 201 1126 ls (.int y :: .int x :: st) σ = exD X 201 1127 ls (.int (x + y) :: st) σ := g_iadd rfl
set_option maxRecDepth 100000 in
theorem a201_1127 {X : SX} {ls : LS0} {st : List Value} {I : Nat → Nat → Int32} {L : Nat → Nat → Int64} {b : Nat} {i : Int32} (hb : b < 4096) : exD X 201 1127 ls (.int i :: .ref b :: st) (ms I L) = iaR (hk (ms I L) b) i (exD X 201 1128 ls (.int (I b i.toNatClampNeg) :: st) (ms I L)) := g_iald rfl hb
set_option maxRecDepth 100000 in
theorem a201_1128 {X : SX} {ls : LS0} {st : List Value} {I : Nat → Nat → Int32} {L : Nat → Nat → Int64} {w0 : Int32} {w1 : Int32} {b : Nat} (hb : hk (ms I L) b = some (0, 10)) (h8 : cS st ≤ 8) : exD X 201 1128 ls (.int w1 :: .int w0 :: .ref b :: st) (ms I L) = cR (caD X 195 [.ref b, .int w0, .int w1] (ms I L)) (fun w s => exD X 201 1131 ls (psh w st) s) := g_cv rfl rfl rfl (Nat.le_of_ble_eq_true rfl) h8 hb
set_option maxRecDepth 100000 in
theorem a201_1131 {X : SX} {ls : LS0} {st : List Value} {σ : SH} {x y : Int32} : exD X 201 1131 ls (.int y :: .int x :: st) σ = if x = y then exD X 201 1251 ls st σ else exD X 201 1134 ls st σ := g_if_icmp_eq rfl
set_option maxRecDepth 100000 in
theorem a201_1134 {X : SX} {ls : LS0} {st : List Value} {σ : SH} : exD X 201 1134 ls st σ = exD X 201 1135 ls (.int 0 :: st) σ := g_iconst rfl
set_option maxRecDepth 100000 in
theorem a201_1135 {X : SX} {ls : LS0} {σ : SH} {x : Int32} : exD X 201 1135 ls [.int x] σ = if x = 0 ∨ x = 1 then some (some (.int x), σ) else none := g_zret rfl rfl
set_option maxRecDepth 100000 in
theorem a201_1136 {X : SX} {c0 : Option Value} {x : Nat} {t : LS0} {st : List Value} {σ : SH} : exD X 201 1136 (c0 :: some (.ref x) :: t) st σ = exD X 201 1137 (c0 :: some (.ref x) :: t) (.ref x :: st) σ := g_aload_1 rfl
set_option maxRecDepth 100000 in
theorem a201_1137 {X : SX} {x : Nat} {t : LS0} {st : List Value} {σ : SH} : exD X 201 1137 (some (.ref x) :: t) st σ = exD X 201 1138 (some (.ref x) :: t) (.ref x :: st) σ := g_aload_0 rfl
set_option maxRecDepth 100000 in
theorem a201_1138 {X : SX} {c0 c1 c2 : Option Value} {x : Int32} {t : LS0} {st : List Value} {σ : SH} : exD X 201 1138 (c0 :: c1 :: c2 :: some (.int x) :: t) st σ = exD X 201 1139 (c0 :: c1 :: c2 :: some (.int x) :: t) (.int x :: st) σ := g_iload_3 rfl
set_option maxRecDepth 100000 in
theorem a201_1139 {X : SX} {ls : LS0} {st : List Value} {σ : SH} : exD X 201 1139 ls st σ = exD X 201 1140 ls (.int 1 :: st) σ := g_iconst rfl
set_option maxRecDepth 100000 in
theorem a201_1140 {X : SX} {ls : LS0} {st : List Value} {σ : SH} {x y : Int32} : exD X 201 1140 ls (.int y :: .int x :: st) σ = exD X 201 1141 ls (.int (x + y) :: st) σ := g_iadd rfl
set_option maxRecDepth 100000 in
theorem a201_1141 {X : SX} {ls : LS0} {st : List Value} {I : Nat → Nat → Int32} {L : Nat → Nat → Int64} {b : Nat} {i : Int32} (hb : b < 4096) : exD X 201 1141 ls (.int i :: .ref b :: st) (ms I L) = iaR (hk (ms I L) b) i (exD X 201 1142 ls (.int (I b i.toNatClampNeg) :: st) (ms I L)) := g_iald rfl hb
set_option maxRecDepth 100000 in
theorem a201_1142 {X : SX} {x : Nat} {t : LS0} {st : List Value} {σ : SH} : exD X 201 1142 (some (.ref x) :: t) st σ = exD X 201 1143 (some (.ref x) :: t) (.ref x :: st) σ := g_aload_0 rfl
set_option maxRecDepth 100000 in
theorem a201_1143 {X : SX} {c0 c1 c2 : Option Value} {x : Int32} {t : LS0} {st : List Value} {σ : SH} : exD X 201 1143 (c0 :: c1 :: c2 :: some (.int x) :: t) st σ = exD X 201 1144 (c0 :: c1 :: c2 :: some (.int x) :: t) (.int x :: st) σ := g_iload_3 rfl
set_option maxRecDepth 100000 in
theorem a201_1144 {X : SX} {ls : LS0} {st : List Value} {σ : SH} : exD X 201 1144 ls st σ = exD X 201 1145 ls (.int 2 :: st) σ := g_iconst rfl
set_option maxRecDepth 100000 in
theorem a201_1145 {X : SX} {ls : LS0} {st : List Value} {σ : SH} {x y : Int32} : exD X 201 1145 ls (.int y :: .int x :: st) σ = exD X 201 1146 ls (.int (x + y) :: st) σ := g_iadd rfl
set_option maxRecDepth 100000 in
theorem a201_1146 {X : SX} {ls : LS0} {st : List Value} {I : Nat → Nat → Int32} {L : Nat → Nat → Int64} {b : Nat} {i : Int32} (hb : b < 4096) : exD X 201 1146 ls (.int i :: .ref b :: st) (ms I L) = iaR (hk (ms I L) b) i (exD X 201 1147 ls (.int (I b i.toNatClampNeg) :: st) (ms I L)) := g_iald rfl hb
set_option maxRecDepth 100000 in
theorem a201_1147 {X : SX} {ls : LS0} {st : List Value} {I : Nat → Nat → Int32} {L : Nat → Nat → Int64} {w0 : Int32} {w1 : Int32} {b : Nat} (hb : hk (ms I L) b = some (0, 9)) (h8 : cS st ≤ 8) : exD X 201 1147 ls (.int w1 :: .int w0 :: .ref b :: st) (ms I L) = cR (caD X 104 [.ref b, .int w0, .int w1] (ms I L)) (fun w s => exD X 201 1150 ls (psh w st) s) := g_cv rfl rfl rfl (Nat.le_of_ble_eq_true rfl) h8 hb
set_option maxRecDepth 100000 in
theorem a201_1150 {X : SX} {c0 c1 : Option Value} {x : Nat} {t : LS0} {st : List Value} {σ : SH} : exD X 201 1150 (c0 :: c1 :: some (.ref x) :: t) st σ = exD X 201 1151 (c0 :: c1 :: some (.ref x) :: t) (.ref x :: st) σ := g_aload_2 rfl
set_option maxRecDepth 100000 in
theorem a201_1151 {X : SX} {x : Nat} {t : LS0} {st : List Value} {σ : SH} : exD X 201 1151 (some (.ref x) :: t) st σ = exD X 201 1152 (some (.ref x) :: t) (.ref x :: st) σ := g_aload_0 rfl
set_option maxRecDepth 100000 in
theorem a201_1152 {X : SX} {c0 c1 c2 : Option Value} {x : Int32} {t : LS0} {st : List Value} {σ : SH} : exD X 201 1152 (c0 :: c1 :: c2 :: some (.int x) :: t) st σ = exD X 201 1153 (c0 :: c1 :: c2 :: some (.int x) :: t) (.int x :: st) σ := g_iload_3 rfl
set_option maxRecDepth 100000 in
theorem a201_1153 {X : SX} {ls : LS0} {st : List Value} {σ : SH} : exD X 201 1153 ls st σ = exD X 201 1154 ls (.int 1 :: st) σ := g_iconst rfl
set_option maxRecDepth 100000 in
theorem a201_1154 {X : SX} {ls : LS0} {st : List Value} {σ : SH} {x y : Int32} : exD X 201 1154 ls (.int y :: .int x :: st) σ = exD X 201 1155 ls (.int (x + y) :: st) σ := g_iadd rfl
set_option maxRecDepth 100000 in
theorem a201_1155 {X : SX} {ls : LS0} {st : List Value} {I : Nat → Nat → Int32} {L : Nat → Nat → Int64} {b : Nat} {i : Int32} (hb : b < 4096) : exD X 201 1155 ls (.int i :: .ref b :: st) (ms I L) = iaR (hk (ms I L) b) i (exD X 201 1156 ls (.int (I b i.toNatClampNeg) :: st) (ms I L)) := g_iald rfl hb
set_option maxRecDepth 100000 in
theorem a201_1156 {X : SX} {x : Nat} {t : LS0} {st : List Value} {σ : SH} : exD X 201 1156 (some (.ref x) :: t) st σ = exD X 201 1157 (some (.ref x) :: t) (.ref x :: st) σ := g_aload_0 rfl
set_option maxRecDepth 100000 in
theorem a201_1157 {X : SX} {c0 c1 c2 : Option Value} {x : Int32} {t : LS0} {st : List Value} {σ : SH} : exD X 201 1157 (c0 :: c1 :: c2 :: some (.int x) :: t) st σ = exD X 201 1158 (c0 :: c1 :: c2 :: some (.int x) :: t) (.int x :: st) σ := g_iload_3 rfl
set_option maxRecDepth 100000 in
theorem a201_1158 {X : SX} {ls : LS0} {st : List Value} {σ : SH} : exD X 201 1158 ls st σ = exD X 201 1159 ls (.int 2 :: st) σ := g_iconst rfl
set_option maxRecDepth 100000 in
theorem a201_1159 {X : SX} {ls : LS0} {st : List Value} {σ : SH} {x y : Int32} : exD X 201 1159 ls (.int y :: .int x :: st) σ = exD X 201 1160 ls (.int (x + y) :: st) σ := g_iadd rfl
set_option maxRecDepth 100000 in
theorem a201_1160 {X : SX} {ls : LS0} {st : List Value} {I : Nat → Nat → Int32} {L : Nat → Nat → Int64} {b : Nat} {i : Int32} (hb : b < 4096) : exD X 201 1160 ls (.int i :: .ref b :: st) (ms I L) = iaR (hk (ms I L) b) i (exD X 201 1161 ls (.int (I b i.toNatClampNeg) :: st) (ms I L)) := g_iald rfl hb
set_option maxRecDepth 100000 in
theorem a201_1161 {X : SX} {ls : LS0} {st : List Value} {I : Nat → Nat → Int32} {L : Nat → Nat → Int64} {w0 : Int32} {w1 : Int32} {b : Nat} (hb : hk (ms I L) b = some (0, 10)) (h8 : cS st ≤ 8) : exD X 201 1161 ls (.int w1 :: .int w0 :: .ref b :: st) (ms I L) = cR (caD X 196 [.ref b, .int w0, .int w1] (ms I L)) (fun w s => exD X 201 1164 ls (psh w st) s) := g_cv rfl rfl rfl (Nat.le_of_ble_eq_true rfl) h8 hb
set_option maxRecDepth 100000 in
theorem a201_1164 {X : SX} {ls : LS0} {st : List Value} {σ : SH} {x y : Int32} : exD X 201 1164 ls (.int y :: .int x :: st) σ = if x = y then exD X 201 1251 ls st σ else exD X 201 1167 ls st σ := g_if_icmp_eq rfl
set_option maxRecDepth 100000 in
theorem a201_1167 {X : SX} {ls : LS0} {st : List Value} {σ : SH} : exD X 201 1167 ls st σ = exD X 201 1168 ls (.int 0 :: st) σ := g_iconst rfl
set_option maxRecDepth 100000 in
theorem a201_1168 {X : SX} {ls : LS0} {σ : SH} {x : Int32} : exD X 201 1168 ls [.int x] σ = if x = 0 ∨ x = 1 then some (some (.int x), σ) else none := g_zret rfl rfl
set_option maxRecDepth 100000 in
theorem a201_1169 {X : SX} {c0 : Option Value} {x : Nat} {t : LS0} {st : List Value} {σ : SH} : exD X 201 1169 (c0 :: some (.ref x) :: t) st σ = exD X 201 1170 (c0 :: some (.ref x) :: t) (.ref x :: st) σ := g_aload_1 rfl
set_option maxRecDepth 100000 in
theorem a201_1170 {X : SX} {x : Nat} {t : LS0} {st : List Value} {σ : SH} : exD X 201 1170 (some (.ref x) :: t) st σ = exD X 201 1171 (some (.ref x) :: t) (.ref x :: st) σ := g_aload_0 rfl
set_option maxRecDepth 100000 in
theorem a201_1171 {X : SX} {c0 c1 c2 : Option Value} {x : Int32} {t : LS0} {st : List Value} {σ : SH} : exD X 201 1171 (c0 :: c1 :: c2 :: some (.int x) :: t) st σ = exD X 201 1172 (c0 :: c1 :: c2 :: some (.int x) :: t) (.int x :: st) σ := g_iload_3 rfl
set_option maxRecDepth 100000 in
theorem a201_1172 {X : SX} {ls : LS0} {st : List Value} {σ : SH} : exD X 201 1172 ls st σ = exD X 201 1173 ls (.int 1 :: st) σ := g_iconst rfl
set_option maxRecDepth 100000 in
theorem a201_1173 {X : SX} {ls : LS0} {st : List Value} {σ : SH} {x y : Int32} : exD X 201 1173 ls (.int y :: .int x :: st) σ = exD X 201 1174 ls (.int (x + y) :: st) σ := g_iadd rfl
set_option maxRecDepth 100000 in
theorem a201_1174 {X : SX} {ls : LS0} {st : List Value} {I : Nat → Nat → Int32} {L : Nat → Nat → Int64} {b : Nat} {i : Int32} (hb : b < 4096) : exD X 201 1174 ls (.int i :: .ref b :: st) (ms I L) = iaR (hk (ms I L) b) i (exD X 201 1175 ls (.int (I b i.toNatClampNeg) :: st) (ms I L)) := g_iald rfl hb
set_option maxRecDepth 100000 in
theorem a201_1175 {X : SX} {x : Nat} {t : LS0} {st : List Value} {σ : SH} : exD X 201 1175 (some (.ref x) :: t) st σ = exD X 201 1176 (some (.ref x) :: t) (.ref x :: st) σ := g_aload_0 rfl
set_option maxRecDepth 100000 in
theorem a201_1176 {X : SX} {c0 c1 c2 : Option Value} {x : Int32} {t : LS0} {st : List Value} {σ : SH} : exD X 201 1176 (c0 :: c1 :: c2 :: some (.int x) :: t) st σ = exD X 201 1177 (c0 :: c1 :: c2 :: some (.int x) :: t) (.int x :: st) σ := g_iload_3 rfl
set_option maxRecDepth 100000 in
theorem a201_1177 {X : SX} {ls : LS0} {st : List Value} {σ : SH} : exD X 201 1177 ls st σ = exD X 201 1178 ls (.int 2 :: st) σ := g_iconst rfl
set_option maxRecDepth 100000 in
theorem a201_1178 {X : SX} {ls : LS0} {st : List Value} {σ : SH} {x y : Int32} : exD X 201 1178 ls (.int y :: .int x :: st) σ = exD X 201 1179 ls (.int (x + y) :: st) σ := g_iadd rfl
set_option maxRecDepth 100000 in
theorem a201_1179 {X : SX} {ls : LS0} {st : List Value} {I : Nat → Nat → Int32} {L : Nat → Nat → Int64} {b : Nat} {i : Int32} (hb : b < 4096) : exD X 201 1179 ls (.int i :: .ref b :: st) (ms I L) = iaR (hk (ms I L) b) i (exD X 201 1180 ls (.int (I b i.toNatClampNeg) :: st) (ms I L)) := g_iald rfl hb
set_option maxRecDepth 100000 in
theorem a201_1180 {X : SX} {ls : LS0} {st : List Value} {I : Nat → Nat → Int32} {L : Nat → Nat → Int64} {w0 : Int32} {w1 : Int32} {b : Nat} (hb : hk (ms I L) b = some (0, 9)) (h8 : cS st ≤ 8) : exD X 201 1180 ls (.int w1 :: .int w0 :: .ref b :: st) (ms I L) = cR (caD X 105 [.ref b, .int w0, .int w1] (ms I L)) (fun w s => exD X 201 1183 ls (psh w st) s) := g_cv rfl rfl rfl (Nat.le_of_ble_eq_true rfl) h8 hb
set_option maxRecDepth 100000 in
theorem a201_1183 {X : SX} {c0 c1 : Option Value} {x : Nat} {t : LS0} {st : List Value} {σ : SH} : exD X 201 1183 (c0 :: c1 :: some (.ref x) :: t) st σ = exD X 201 1184 (c0 :: c1 :: some (.ref x) :: t) (.ref x :: st) σ := g_aload_2 rfl
set_option maxRecDepth 100000 in
theorem a201_1184 {X : SX} {x : Nat} {t : LS0} {st : List Value} {σ : SH} : exD X 201 1184 (some (.ref x) :: t) st σ = exD X 201 1185 (some (.ref x) :: t) (.ref x :: st) σ := g_aload_0 rfl
set_option maxRecDepth 100000 in
theorem a201_1185 {X : SX} {c0 c1 c2 : Option Value} {x : Int32} {t : LS0} {st : List Value} {σ : SH} : exD X 201 1185 (c0 :: c1 :: c2 :: some (.int x) :: t) st σ = exD X 201 1186 (c0 :: c1 :: c2 :: some (.int x) :: t) (.int x :: st) σ := g_iload_3 rfl
set_option maxRecDepth 100000 in
theorem a201_1186 {X : SX} {ls : LS0} {st : List Value} {σ : SH} : exD X 201 1186 ls st σ = exD X 201 1187 ls (.int 1 :: st) σ := g_iconst rfl
set_option maxRecDepth 100000 in
theorem a201_1187 {X : SX} {ls : LS0} {st : List Value} {σ : SH} {x y : Int32} : exD X 201 1187 ls (.int y :: .int x :: st) σ = exD X 201 1188 ls (.int (x + y) :: st) σ := g_iadd rfl
set_option maxRecDepth 100000 in
theorem a201_1188 {X : SX} {ls : LS0} {st : List Value} {I : Nat → Nat → Int32} {L : Nat → Nat → Int64} {b : Nat} {i : Int32} (hb : b < 4096) : exD X 201 1188 ls (.int i :: .ref b :: st) (ms I L) = iaR (hk (ms I L) b) i (exD X 201 1189 ls (.int (I b i.toNatClampNeg) :: st) (ms I L)) := g_iald rfl hb
set_option maxRecDepth 100000 in
theorem a201_1189 {X : SX} {x : Nat} {t : LS0} {st : List Value} {σ : SH} : exD X 201 1189 (some (.ref x) :: t) st σ = exD X 201 1190 (some (.ref x) :: t) (.ref x :: st) σ := g_aload_0 rfl
set_option maxRecDepth 100000 in
theorem a201_1190 {X : SX} {c0 c1 c2 : Option Value} {x : Int32} {t : LS0} {st : List Value} {σ : SH} : exD X 201 1190 (c0 :: c1 :: c2 :: some (.int x) :: t) st σ = exD X 201 1191 (c0 :: c1 :: c2 :: some (.int x) :: t) (.int x :: st) σ := g_iload_3 rfl
set_option maxRecDepth 100000 in
theorem a201_1191 {X : SX} {ls : LS0} {st : List Value} {σ : SH} : exD X 201 1191 ls st σ = exD X 201 1192 ls (.int 2 :: st) σ := g_iconst rfl
set_option maxRecDepth 100000 in
theorem a201_1192 {X : SX} {ls : LS0} {st : List Value} {σ : SH} {x y : Int32} : exD X 201 1192 ls (.int y :: .int x :: st) σ = exD X 201 1193 ls (.int (x + y) :: st) σ := g_iadd rfl
set_option maxRecDepth 100000 in
theorem a201_1193 {X : SX} {ls : LS0} {st : List Value} {I : Nat → Nat → Int32} {L : Nat → Nat → Int64} {b : Nat} {i : Int32} (hb : b < 4096) : exD X 201 1193 ls (.int i :: .ref b :: st) (ms I L) = iaR (hk (ms I L) b) i (exD X 201 1194 ls (.int (I b i.toNatClampNeg) :: st) (ms I L)) := g_iald rfl hb
set_option maxRecDepth 100000 in
theorem a201_1194 {X : SX} {ls : LS0} {st : List Value} {I : Nat → Nat → Int32} {L : Nat → Nat → Int64} {w0 : Int32} {w1 : Int32} {b : Nat} (hb : hk (ms I L) b = some (0, 10)) (h8 : cS st ≤ 8) : exD X 201 1194 ls (.int w1 :: .int w0 :: .ref b :: st) (ms I L) = cR (caD X 197 [.ref b, .int w0, .int w1] (ms I L)) (fun w s => exD X 201 1197 ls (psh w st) s) := g_cv rfl rfl rfl (Nat.le_of_ble_eq_true rfl) h8 hb
set_option maxRecDepth 100000 in
theorem a201_1197 {X : SX} {ls : LS0} {st : List Value} {σ : SH} {x y : Int32} : exD X 201 1197 ls (.int y :: .int x :: st) σ = if x = y then exD X 201 1251 ls st σ else exD X 201 1200 ls st σ := g_if_icmp_eq rfl
set_option maxRecDepth 100000 in
theorem a201_1200 {X : SX} {ls : LS0} {st : List Value} {σ : SH} : exD X 201 1200 ls st σ = exD X 201 1201 ls (.int 0 :: st) σ := g_iconst rfl
set_option maxRecDepth 100000 in
theorem a201_1201 {X : SX} {ls : LS0} {σ : SH} {x : Int32} : exD X 201 1201 ls [.int x] σ = if x = 0 ∨ x = 1 then some (some (.int x), σ) else none := g_zret rfl rfl
set_option maxRecDepth 100000 in
theorem a201_1202 {X : SX} {c0 : Option Value} {x : Nat} {t : LS0} {st : List Value} {σ : SH} : exD X 201 1202 (c0 :: some (.ref x) :: t) st σ = exD X 201 1203 (c0 :: some (.ref x) :: t) (.ref x :: st) σ := g_aload_1 rfl
set_option maxRecDepth 100000 in
theorem a201_1203 {X : SX} {ls : LS0} {st : List Value} {I : Nat → Nat → Int32} {L : Nat → Nat → Int64} {b : Nat} (hb : hk (ms I L) b = some (0, 9)) (h8 : cS st ≤ 8) : exD X 201 1203 ls (.ref b :: st) (ms I L) = cR (caD X 106 [.ref b] (ms I L)) (fun w s => exD X 201 1206 ls (psh w st) s) := g_cv rfl rfl rfl (Nat.le_of_ble_eq_true rfl) h8 hb
set_option maxRecDepth 100000 in
theorem a201_1206 {X : SX} {c0 c1 : Option Value} {x : Nat} {t : LS0} {st : List Value} {σ : SH} : exD X 201 1206 (c0 :: c1 :: some (.ref x) :: t) st σ = exD X 201 1207 (c0 :: c1 :: some (.ref x) :: t) (.ref x :: st) σ := g_aload_2 rfl
set_option maxRecDepth 100000 in
theorem a201_1207 {X : SX} {ls : LS0} {st : List Value} {I : Nat → Nat → Int32} {L : Nat → Nat → Int64} {b : Nat} (hb : hk (ms I L) b = some (0, 10)) (h8 : cS st ≤ 8) : exD X 201 1207 ls (.ref b :: st) (ms I L) = cR (caD X 145 [.ref b] (ms I L)) (fun w s => exD X 201 1210 ls (psh w st) s) := g_cv rfl rfl rfl (Nat.le_of_ble_eq_true rfl) h8 hb
set_option maxRecDepth 100000 in
theorem a201_1210 {X : SX} {ls : LS0} {st : List Value} {σ : SH} {x y : Int32} : exD X 201 1210 ls (.int y :: .int x :: st) σ = if x = y then exD X 201 1251 ls st σ else exD X 201 1213 ls st σ := g_if_icmp_eq rfl
set_option maxRecDepth 100000 in
theorem a201_1213 {X : SX} {ls : LS0} {st : List Value} {σ : SH} : exD X 201 1213 ls st σ = exD X 201 1214 ls (.int 0 :: st) σ := g_iconst rfl
set_option maxRecDepth 100000 in
theorem a201_1214 {X : SX} {ls : LS0} {σ : SH} {x : Int32} : exD X 201 1214 ls [.int x] σ = if x = 0 ∨ x = 1 then some (some (.int x), σ) else none := g_zret rfl rfl
set_option maxRecDepth 100000 in
theorem a201_1215 {X : SX} {c0 : Option Value} {x : Nat} {t : LS0} {st : List Value} {σ : SH} : exD X 201 1215 (c0 :: some (.ref x) :: t) st σ = exD X 201 1216 (c0 :: some (.ref x) :: t) (.ref x :: st) σ := g_aload_1 rfl
set_option maxRecDepth 100000 in
theorem a201_1216 {X : SX} {ls : LS0} {st : List Value} {I : Nat → Nat → Int32} {L : Nat → Nat → Int64} {b : Nat} (hb : hk (ms I L) b = some (0, 9)) (h8 : cS st ≤ 8) : exD X 201 1216 ls (.ref b :: st) (ms I L) = cR (caD X 107 [.ref b] (ms I L)) (fun w s => exD X 201 1219 ls (psh w st) s) := g_cv rfl rfl rfl (Nat.le_of_ble_eq_true rfl) h8 hb
set_option maxRecDepth 100000 in
theorem a201_1219 {X : SX} {c0 c1 : Option Value} {x : Nat} {t : LS0} {st : List Value} {σ : SH} : exD X 201 1219 (c0 :: c1 :: some (.ref x) :: t) st σ = exD X 201 1220 (c0 :: c1 :: some (.ref x) :: t) (.ref x :: st) σ := g_aload_2 rfl
set_option maxRecDepth 100000 in
theorem a201_1220 {X : SX} {ls : LS0} {st : List Value} {I : Nat → Nat → Int32} {L : Nat → Nat → Int64} {b : Nat} (hb : hk (ms I L) b = some (0, 10)) (h8 : cS st ≤ 8) : exD X 201 1220 ls (.ref b :: st) (ms I L) = cR (caD X 146 [.ref b] (ms I L)) (fun w s => exD X 201 1223 ls (psh w st) s) := g_cv rfl rfl rfl (Nat.le_of_ble_eq_true rfl) h8 hb
set_option maxRecDepth 100000 in
theorem a201_1223 {X : SX} {ls : LS0} {st : List Value} {σ : SH} {x y : Int32} : exD X 201 1223 ls (.int y :: .int x :: st) σ = if x = y then exD X 201 1251 ls st σ else exD X 201 1226 ls st σ := g_if_icmp_eq rfl
set_option maxRecDepth 100000 in
theorem a201_1226 {X : SX} {ls : LS0} {st : List Value} {σ : SH} : exD X 201 1226 ls st σ = exD X 201 1227 ls (.int 0 :: st) σ := g_iconst rfl
set_option maxRecDepth 100000 in
theorem a201_1227 {X : SX} {ls : LS0} {σ : SH} {x : Int32} : exD X 201 1227 ls [.int x] σ = if x = 0 ∨ x = 1 then some (some (.int x), σ) else none := g_zret rfl rfl
set_option maxRecDepth 100000 in
theorem a201_1228 {X : SX} {c0 : Option Value} {x : Nat} {t : LS0} {st : List Value} {σ : SH} : exD X 201 1228 (c0 :: some (.ref x) :: t) st σ = exD X 201 1229 (c0 :: some (.ref x) :: t) (.ref x :: st) σ := g_aload_1 rfl
set_option maxRecDepth 100000 in
theorem a201_1229 {X : SX} {x : Nat} {t : LS0} {st : List Value} {σ : SH} : exD X 201 1229 (some (.ref x) :: t) st σ = exD X 201 1230 (some (.ref x) :: t) (.ref x :: st) σ := g_aload_0 rfl
set_option maxRecDepth 100000 in
theorem a201_1230 {X : SX} {c0 c1 c2 : Option Value} {x : Int32} {t : LS0} {st : List Value} {σ : SH} : exD X 201 1230 (c0 :: c1 :: c2 :: some (.int x) :: t) st σ = exD X 201 1231 (c0 :: c1 :: c2 :: some (.int x) :: t) (.int x :: st) σ := g_iload_3 rfl
set_option maxRecDepth 100000 in
theorem a201_1231 {X : SX} {ls : LS0} {st : List Value} {σ : SH} : exD X 201 1231 ls st σ = exD X 201 1232 ls (.int 1 :: st) σ := g_iconst rfl
set_option maxRecDepth 100000 in
theorem a201_1232 {X : SX} {ls : LS0} {st : List Value} {σ : SH} {x y : Int32} : exD X 201 1232 ls (.int y :: .int x :: st) σ = exD X 201 1233 ls (.int (x + y) :: st) σ := g_iadd rfl
set_option maxRecDepth 100000 in
theorem a201_1233 {X : SX} {ls : LS0} {st : List Value} {I : Nat → Nat → Int32} {L : Nat → Nat → Int64} {b : Nat} {i : Int32} (hb : b < 4096) : exD X 201 1233 ls (.int i :: .ref b :: st) (ms I L) = iaR (hk (ms I L) b) i (exD X 201 1234 ls (.int (I b i.toNatClampNeg) :: st) (ms I L)) := g_iald rfl hb
set_option maxRecDepth 100000 in
theorem a201_1234 {X : SX} {ls : LS0} {st : List Value} {I : Nat → Nat → Int32} {L : Nat → Nat → Int64} {w0 : Int32} {b : Nat} (hb : hk (ms I L) b = some (0, 9)) (h8 : cS st ≤ 8) : exD X 201 1234 ls (.int w0 :: .ref b :: st) (ms I L) = cR (caD X 108 [.ref b, .int w0] (ms I L)) (fun w s => exD X 201 1237 ls (psh w st) s) := g_cv rfl rfl rfl (Nat.le_of_ble_eq_true rfl) h8 hb
set_option maxRecDepth 100000 in
theorem a201_1237 {X : SX} {c0 c1 : Option Value} {x : Nat} {t : LS0} {st : List Value} {σ : SH} : exD X 201 1237 (c0 :: c1 :: some (.ref x) :: t) st σ = exD X 201 1238 (c0 :: c1 :: some (.ref x) :: t) (.ref x :: st) σ := g_aload_2 rfl
set_option maxRecDepth 100000 in
theorem a201_1238 {X : SX} {x : Nat} {t : LS0} {st : List Value} {σ : SH} : exD X 201 1238 (some (.ref x) :: t) st σ = exD X 201 1239 (some (.ref x) :: t) (.ref x :: st) σ := g_aload_0 rfl
set_option maxRecDepth 100000 in
theorem a201_1239 {X : SX} {c0 c1 c2 : Option Value} {x : Int32} {t : LS0} {st : List Value} {σ : SH} : exD X 201 1239 (c0 :: c1 :: c2 :: some (.int x) :: t) st σ = exD X 201 1240 (c0 :: c1 :: c2 :: some (.int x) :: t) (.int x :: st) σ := g_iload_3 rfl
set_option maxRecDepth 100000 in
theorem a201_1240 {X : SX} {ls : LS0} {st : List Value} {σ : SH} : exD X 201 1240 ls st σ = exD X 201 1241 ls (.int 1 :: st) σ := g_iconst rfl
set_option maxRecDepth 100000 in
theorem a201_1241 {X : SX} {ls : LS0} {st : List Value} {σ : SH} {x y : Int32} : exD X 201 1241 ls (.int y :: .int x :: st) σ = exD X 201 1242 ls (.int (x + y) :: st) σ := g_iadd rfl
set_option maxRecDepth 100000 in
theorem a201_1242 {X : SX} {ls : LS0} {st : List Value} {I : Nat → Nat → Int32} {L : Nat → Nat → Int64} {b : Nat} {i : Int32} (hb : b < 4096) : exD X 201 1242 ls (.int i :: .ref b :: st) (ms I L) = iaR (hk (ms I L) b) i (exD X 201 1243 ls (.int (I b i.toNatClampNeg) :: st) (ms I L)) := g_iald rfl hb
set_option maxRecDepth 100000 in
theorem a201_1243 {X : SX} {ls : LS0} {st : List Value} {I : Nat → Nat → Int32} {L : Nat → Nat → Int64} {w0 : Int32} {b : Nat} (hb : hk (ms I L) b = some (0, 10)) (h8 : cS st ≤ 8) : exD X 201 1243 ls (.int w0 :: .ref b :: st) (ms I L) = cR (caD X 199 [.ref b, .int w0] (ms I L)) (fun w s => exD X 201 1246 ls (psh w st) s) := g_cv rfl rfl rfl (Nat.le_of_ble_eq_true rfl) h8 hb
set_option maxRecDepth 100000 in
theorem a201_1246 {X : SX} {ls : LS0} {st : List Value} {σ : SH} {x y : Int32} : exD X 201 1246 ls (.int y :: .int x :: st) σ = if x = y then exD X 201 1251 ls st σ else exD X 201 1249 ls st σ := g_if_icmp_eq rfl
set_option maxRecDepth 100000 in
theorem a201_1249 {X : SX} {ls : LS0} {st : List Value} {σ : SH} : exD X 201 1249 ls st σ = exD X 201 1250 ls (.int 0 :: st) σ := g_iconst rfl
set_option maxRecDepth 100000 in
theorem a201_1250 {X : SX} {ls : LS0} {σ : SH} {x : Int32} : exD X 201 1250 ls [.int x] σ = if x = 0 ∨ x = 1 then some (some (.int x), σ) else none := g_zret rfl rfl
set_option maxRecDepth 100000 in
theorem a201_1251 {X : SX} {c0 c1 c2 : Option Value} {x : Int32} {t : LS0} {st : List Value} {σ : SH} : exD X 201 1251 (c0 :: c1 :: c2 :: some (.int x) :: t) st σ = exD X 201 1254 (stS 3 (.int (x + 5)) (c0 :: c1 :: c2 :: some (.int x) :: t)) st σ := g_iinc_3 rfl
set_option maxRecDepth 100000 in
theorem a201_1254 {X : SX} {ls : LS0} {st : List Value} {σ : SH} : exD X 201 1254 ls st σ = exD X 201 18 ls st σ := g_goto rfl
set_option maxRecDepth 100000 in
theorem a201_1257 {X : SX} {ls : LS0} {st : List Value} {σ : SH} : exD X 201 1257 ls st σ = exD X 201 1258 ls (.int 1 :: st) σ := g_iconst rfl
set_option maxRecDepth 100000 in
theorem a201_1258 {X : SX} {ls : LS0} {σ : SH} {x : Int32} : exD X 201 1258 ls [.int x] σ = if x = 0 ∨ x = 1 then some (some (.int x), σ) else none := g_zret rfl rfl
