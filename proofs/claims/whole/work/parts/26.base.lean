/-! rows of memory, small numbers -/
theorem u2_row {α : Type} (f : Nat → Nat → α) (k j a : Nat) (v : α) : u2 f k j v a = if a = k then (fun b => if b = j then v else f a b) else f a := by
  funext b
  unfold u2
  split <;> rfl
theorem z2_row {α : Type} (f : Nat → Nat → α) (k a : Nat) (g : Nat → α) : z2 f k g a = if a = k then g else f a := by
  funext b
  unfold z2
  split <;> rfl
theorem u2_z2 {α : Type} (f : Nat → Nat → α) (k j : Nat) (v : α) : u2 f k j v = z2 f k (fun b => if b = j then v else f k b) := by
  funext a
  rw [u2_row, z2_row]
  split
  · rename_i h; rw [h]
  · rfl
theorem z2_z2 {α : Type} (f : Nat → Nat → α) (k : Nat) (g h : Nat → α) : z2 (z2 f k g) k h = z2 f k h := by
  funext a
  simp only [z2_row]
  split <;> rfl
theorem z2_id {α : Type} (f : Nat → Nat → α) (k : Nat) : z2 f k (f k) = f := by
  funext a
  rw [z2_row]
  split
  · rename_i h; rw [h]
  · rfl
