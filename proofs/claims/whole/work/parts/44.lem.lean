theorem ne_of_in {w z lo hi : Int32} (h : inI w lo hi = false) (hz : inI z lo hi = true) : ¬ w = z := fun e => by rw [e, hz] at h; cases h
theorem left_z (σ : Nu) (k : Nat) : sumF (fun _ => 0) k = 0 := by
  induction k with
  | zero => rfl
  | succ k ih => rw [sumF, ih]; rfl
