/-- a new row of bytes, of ints: all 0 -/
theorem nz_byte (N : Nat) (cA : ClassId) : vp_cell cA (N, .inl (fun _ => 0)) = arrV cA N (fun _ => defaultValue .byte) := rfl
theorem nz_int (N : Nat) (cA : ClassId) : vp_cell cA (N, .inl (fun _ => 0)) = arrV cA N (fun _ => defaultValue .int) := rfl
theorem nb_byte (N : Nat) (h : N ≤ 536870912) : N * componentBytes .byte ≤ 536870912 := by
  rw [show componentBytes .byte = 1 from rfl, Nat.mul_one]; exact h
theorem nb_int (N : Nat) (h : 4 * N ≤ 536870912) : N * componentBytes .int ≤ 536870912 := by
  rw [show componentBytes .int = 4 from rfl, Nat.mul_comm]; exact h
theorem nb_long (N : Nat) (h : 8 * N ≤ 536870912) : N * componentBytes .long ≤ 536870912 := by
  rw [show componentBytes .long = 8 from rfl, Nat.mul_comm]; exact h
