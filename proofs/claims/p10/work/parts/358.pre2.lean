theorem na_i (n : Nat) : ∀ cA : ClassId, vp_cell cA (n, .inl (fun _ => 0)) = arrV cA n (fun _ => defaultValue .int) := fun _ => rfl
theorem na_z (n : Nat) : ∀ cA : ClassId, vp_cell cA (n, .inl (fun _ => 0)) = arrV cA n (fun _ => defaultValue .boolean) := fun _ => rfl
theorem na_l (n : Nat) : ∀ cA : ClassId, vp_cell cA (n, .inr (.inl (fun _ => 0))) = arrV cA n (fun _ => defaultValue .long) := fun _ => rfl
theorem na_b4 {n : Nat} (h : n ≤ 10000) : n * componentBytes .int ≤ 536870912 := by
  have : componentBytes .int = 4 := by decide
  rw [this]; omega
theorem na_b1 {n : Nat} (h : n ≤ 10000) : n * componentBytes .boolean ≤ 536870912 := by
  have : componentBytes .boolean = 1 := by decide
  rw [this]; omega
theorem na_b8 {n : Nat} (h : n ≤ 10000) : n * componentBytes .long ≤ 536870912 := by
  have : componentBytes .long = 8 := by decide
  rw [this]; omega
