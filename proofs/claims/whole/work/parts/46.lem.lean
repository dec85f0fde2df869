theorem oN_400 (t : Nat) : oN (tM 400 t) = dN 400 t := oN_tM t (by omega)
theorem oF_400 (t : Nat) (fo : Nat → Int32) : oF (tM 400 t) fo = dF 400 t fo := oF_tM t fo (by omega)
theorem pc_z : ∀ r, r < 256 → pcF 9 r = 0 → r = 0 := by decide +kernel
theorem bit_e {r : Nat} (h : r < 256) (h0 : r ≠ 0) : nI r &&& (nI r - 1) = nI (r &&& (r - 1)) := by
  rcases bit_tab r h with q | q
  · exact q
  · exact absurd q h0
theorem pc_nz {r d : Nat} (h : pcF 9 r = d + 1) : r ≠ 0 := fun e => by rw [e] at h; exact absurd h (by rw [pcF, if_pos rfl]; omega)
theorem bsN_256 (f : Nat → Bool) {n : Nat} (h : n ≤ 8) : bsN f n < 256 := Nat.lt_of_lt_of_le (bsN_lt f n) (Nat.pow_le_pow_right (by omega) h)
theorem pc_und (σ : Nu) {n : Nat} (h : n ≤ 8) : nI (pcF 9 (bsN (done σ) n)) = nI (n - undN σ n) := by
  have := pc_bs σ n h
  rw [show pcF 9 (bsN (done σ) n) = n - undN σ n from by omega]
def stA (f : Nat → Int32) (w : Int32) : Nat → Int32 | 0 => 0 | k + 1 => stA f w k + (if w < 0 ∨ w = nI k then f k else 0)
theorem stA_t {f : Nat → Int32} {w : Int32} {k : Nat} (h : w < 0 ∨ w = nI k) : stA f w (k + 1) = stA f w k + f k := by rw [stA, if_pos h]
theorem stA_f {f : Nat → Int32} {w : Int32} {k : Nat} (h : ¬ w < 0) (h2 : ¬ w = nI k) : stA f w (k + 1) = stA f w k + 0 := by rw [stA, if_neg (fun q => q.elim h h2)]
theorem stA_neg {f : Nat → Int32} {w : Int32} (h : w < 0) : ∀ k, stA f w k = sumF f k
  | 0 => rfl
  | k + 1 => by rw [stA_t (Or.inl h), stA_neg h k]; rfl
theorem stA_lo {f : Nat → Int32} {j : Nat} (hj : j < 1000) : ∀ k, k ≤ j → stA f (nI j) k = 0
  | 0, _ => rfl
  | k + 1, h => by
    rw [stA_f (nI_pos (by omega)) (fun e => by have := (nI_eq (by omega) (by omega)).mp e; omega), stA_lo hj k (by omega)]; rfl
theorem stA_hi {f : Nat → Int32} {j : Nat} (hj : j < 1000) : ∀ k, k < 1000 → j < k → stA f (nI j) k = f j
  | 0, _, h => absurd h (Nat.not_lt_zero _)
  | k + 1, hk, h => by
    by_cases e : j = k
    · subst e
      rw [stA_t (Or.inr rfl), stA_lo hj j (Nat.le_refl _), Int32.zero_add]
    · rw [stA_f (nI_pos (by omega)) (fun q => e ((nI_eq (by omega) (by omega)).mp q)), stA_hi hj k (by omega) (by omega), Int32.add_zero]
theorem stA_all {f : Nat → Int32} {w : Int32} (h : inI w (-1) 6 = true) : stA f w 7 = if w < 0 then sumF f 7 else f (pN w) := by
  by_cases q : w < 0
  · rw [if_pos q, stA_neg q]
  · obtain ⟨k, h1, rfl⟩ := st_k h q
    rw [if_neg q, stA_hi (by omega) 7 (by omega) (by omega), show pN (nI k) = k from nI_clamp (by omega)]
