/-! minute by minute in mind, on both sides -/
def AT (I : Nat → Nat → Int32) (n c k : Nat) (J : Nat → Nat → Int32) : Prop := (∀ b, b ≠ 53 → b ≠ 54 → b ≠ 55 → b ≠ 56 → J b = I b) ∧ J 54 = (hd0 I n c).it (-1) (-1) (-1) (-1) k (I 1 1) (I 2) ∧ J 53 3 = I 1 1 + nI k ∧ J 53 4 = I 6 0 ∧ J 53 5 = -1 ∧ J 53 6 = -1 ∧ J 53 7 = -1 ∧ J 53 8 = -1
theorem AT.start {I : Nat → Nat → Int32} {n c : Nat} : AT I n c 0 (t1_53 I) := ⟨fun b b1 b2 _ _ => t1_off_53 b1 b2, rfl, by show I 1 1 = I 1 1 + 0; rw [Int32.add_zero], rfl, rfl, rfl, rfl, rfl⟩
theorem AT.cs {I J : Nat → Nat → Int32} {n c k : Nat} (h : AT I n c k J) : CS I J := fun b hb => h.1 b (by omega) (by omega) (by omega) (by omega)
theorem AT.step {X : SX} {L : Nat → Nat → Int64} {I J : Nat → Nat → Int32} {n c m q k : Nat} (hH : H1 n c m q I) (h : AT I n c k J) : caD X 7 [.ref 53, .ref 1] (ms J L) = some (none, ms (t7_53 J c n) L) ∧ AT I n c (k + 1) (t7_53 J c n) ∧ t7_53 J c n 56 = J 56 := by
  obtain ⟨h1, h2, h3, h4, h5, h6, h7, h8⟩ := h
  obtain ⟨⟨hn2, hn5, hn⟩, ⟨hc5, hc⟩, -⟩ := id hH
  have f := fun b b1 b2 b3 => t7_off_53 (I := J) (c := c) (n := n) (b := b) b1 b2 b3
  refine ⟨c7_53 hc5 hn5 (by rw [h1 11 (by decide) (by decide) (by decide) (by decide)]; exact hH.pos) (by rw [h1 7 (by decide) (by decide) (by decide) (by decide)]; exact hc) (by rw [h1 1 (by decide) (by decide) (by decide) (by decide)]; exact hn), ⟨fun b b1 b2 b3 b4 => (f b b1 b2 b3).trans (h1 b b1 b2 b3 b4), ?_, ?_, ?_⟩, f 56 (by decide) (by decide) (by decide)⟩
  · have e : hd1 J n c (J 53 4) = hd0 I n c := by
      unfold hd0 hd1
      rw [h1 3 (by decide) (by decide) (by decide) (by decide), h1 4 (by decide) (by decide) (by decide) (by decide), h1 5 (by decide) (by decide) (by decide) (by decide), h1 8 (by decide) (by decide) (by decide) (by decide), h1 9 (by decide) (by decide) (by decide) (by decide), h1 10 (by decide) (by decide) (by decide) (by decide), h1 11 (by decide) (by decide) (by decide) (by decide), h4]
    have a := (tp_row_53 (n := n) (c := c) 1 J).1
    rw [e, h5, h6, h7, h8, h3, h2] at a
    rw [HD.it_add]
    exact a
  · have a := (tp_row_53 (n := n) (c := c) 1 J).2.1
    rw [h3, Int32.add_assoc, nI_add] at a
    exact a
  · have a := (tp_row_53 (n := n) (c := c) 1 J).2.2
    exact ⟨(a 4 (by decide)).trans h4, (a 5 (by decide)).trans h5, (a 6 (by decide)).trans h6, (a 7 (by decide)).trans h7, (a 8 (by decide)).trans h8⟩
/-- the reference, in mind from J -/
def GT (J : Nat → Nat → Int32) (n c k : Nat) (G : Nat → Nat → Int32) : Prop := Mnd J G ∧ hdM G n c (J 5) (hd0 J n c) ∧ G 73 = (hd0 J n c).it (-1) (-1) (-1) (-1) k (J 1 1) (J 2) ∧ G 71 16 = J 1 1 + nI k
theorem GT.start {J : Nat → Nat → Int32} {n c m q : Nat} (hH : H1 n c m q J) (hE : EQh J) : GT J n c 0 (sv1 J) := by
  obtain ⟨hM, m16, m73⟩ := mind_start hH hE (fun _ _ => rfl)
  exact ⟨Mnd.sv, hM, m73, by rw [m16]; show J 1 1 = J 1 1 + 0; rw [Int32.add_zero]⟩
theorem it_okS {I : Nat → Nat → Int32} {n c m q : Nat} (hH : H1 n c m q I) (k : Nat) (hk : k ≤ 900000) : okS n ((hd0 I n c).it (-1) (-1) (-1) (-1) k (I 1 1) (I 2)) := by
  obtain ⟨⟨hn2, hn5, hn⟩, ⟨hc5, hc⟩, ⟨hm4, hm⟩, H4, H5, H6, H7, H8, H9⟩ := hH
  exact HD.it_ok (h := hd0 I n c) (tp2 := -9) (lo := -9) (on := -9) (SR2 := I 5) ⟨⟨hn2, hn5⟩, hc5, H5, H7⟩ (agr_all hc5 hn5) (clo_all H6) k _ _ H9.1.1 (by have := H9.1.2; omega) H4
theorem GT.step {X : SX} {L : Nat → Nat → Int64} {J G : Nat → Nat → Int32} {n c m q k : Nat} (hH : H1 n c m q J) (hk : k ≤ 900000) (h : GT J n c k G) : caD X 150 [.ref 71, .int 1, .int (-9), .int (-9)] (ms G L) = some (none, ms (gM c n (-9) (-9) (-9) 1 G) L) ∧ GT J n c (k + 1) (gM c n (-9) (-9) (-9) 1 G) := by
  obtain ⟨h1, h2, h3, h4⟩ := h
  have hs := it_okS hH k hk
  obtain ⟨⟨hn2, hn5, hn⟩, ⟨hc5, hc⟩, ⟨hm4, hm⟩, H4, H5, H6, H7, H8, H9⟩ := id hH
  have ht := t_up (t := J 1 1) (m := k) H9.1.1 (by have := H9.1.2; omega)
  have e1 : nI 1 = 1 := rfl
  have hc150 := c150 (X := X) (L := L) (m := 1) (tp := -9) (lo := -9) (by omega) h2
  rw [e1] at hc150
  obtain ⟨g1, g2, g3, -⟩ := gM_row (h := hd0 J n c) (g := -1) (tp := -1) (sp := -1) (sb := -1) (agr_all hc5 hn5) (clo_all H6) 1 G h2 (by rw [h4, ht]; have := H9.1.1; omega) (by rw [h4, ht]; have := H9.1.2; omega) (by rw [h3]; exact hs)
  refine ⟨hc150, h1.runs 1, g3, ?_, ?_⟩
  · rw [g1, h4, h3, HD.it_add]
  · rw [g2, h4, Int32.add_assoc, nI_add]
