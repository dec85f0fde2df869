/-! plain facts of numbers (out of NUMBERS and COUNTS, pasted), then of the nursery -/
theorem fa_lt (a b : Int32) : a < b ↔ a.toInt < b.toInt := Int32.lt_iff_toInt_lt
theorem fa_le (a b : Int32) : a ≤ b ↔ a.toInt ≤ b.toInt := Int32.le_iff_toInt_le
theorem fa_eq (a b : Int32) : a = b ↔ a.toInt = b.toInt := Int32.toInt_inj.symm
theorem fb_rng (x : Int32) : -2147483648 ≤ x.toInt ∧ x.toInt < 2147483648 := by
  have h1 := Int32.le_toInt x
  have h2 := Int32.toInt_lt x
  omega
theorem fb_bmod {z : Int} (h1 : -2147483648 ≤ z) (h2 : z < 2147483648) : z.bmod (2 ^ 32) = z := by
  rw [Int.bmod_eq_of_le (by omega) (by omega)]
theorem fb_addI {x y : Int32} (h1 : -2147483648 ≤ x.toInt + y.toInt) (h2 : x.toInt + y.toInt < 2147483648) : (x + y).toInt = x.toInt + y.toInt := by
  rw [Int32.toInt_add, fb_bmod h1 h2]
theorem fb_subI {x y : Int32} (h1 : -2147483648 ≤ x.toInt - y.toInt) (h2 : x.toInt - y.toInt < 2147483648) : (x - y).toInt = x.toInt - y.toInt := by
  rw [Int32.toInt_sub, fb_bmod h1 h2]
theorem nx_xor (a b : Nat) : nI a ^^^ nI b = nI (a ^^^ b) := by
  apply Int32.toBitVec_inj.1
  show BitVec.ofNat 32 a ^^^ BitVec.ofNat 32 b = BitVec.ofNat 32 (a ^^^ b)
  apply BitVec.eq_of_getLsbD_eq
  intro i hi
  simp [hi]
theorem fm_xor {d : Nat} (h : d < 1000000) : 0 ≤ nI d ^^^ 7 := by
  show 0 ≤ nI d ^^^ nI 7
  rw [nx_xor]
  have : d ^^^ 7 < 2 ^ 20 := Nat.xor_lt_two_pow (by omega) (by omega)
  exact nI_pos' (by omega)
theorem mx0_ti (v : Int32) : (mx0 v).toInt = if 0 < v.toInt then v.toInt else 0 := by
  unfold mx0
  have e : (0 < v) = (0 < v.toInt) := propext (fa_lt 0 v)
  simp only [e]
  split <;> rfl
theorem mnI_ti (m v : Int32) : (mnI m v).toInt = if v.toInt < m.toInt then v.toInt else m.toInt := by
  unfold mnI
  have e : (v < m) = (v.toInt < m.toInt) := propext (fa_lt v m)
  simp only [e]
  split <;> rfl
theorem nI_ofTi {x : Int32} {n : Nat} (h0 : 0 ≤ x.toInt) (h1 : x.toInt ≤ n) : ∃ k : Nat, k ≤ n ∧ x = nI k ∧ x.toInt = k := by
  have hb := fb_rng x
  refine ⟨x.toInt.toNat, by omega, ?_, by omega⟩
  apply Int32.toInt_inj.mp
  rw [nI_toInt (by omega)]
  omega
theorem g_tab : ∀ a, a < 100 → (0 ≤ (mx0 (4 - nI a / 30 + 3)).toInt ∧ (mx0 (4 - nI a / 30 + 3)).toInt ≤ 8) ∧ (0 ≤ (mx0 (4 - nI a / 30)).toInt ∧ (mx0 (4 - nI a / 30)).toInt ≤ 8) ∧ (0 ≤ (mx0 (4 - nI a / 30 + 1)).toInt ∧ (mx0 (4 - nI a / 30 + 1)).toInt ≤ 8) ∧ (0 ≤ (mx0 (4 - nI a / 30 + 3 - 1)).toInt ∧ (mx0 (4 - nI a / 30 + 3 - 1)).toInt ≤ 8) ∧ (0 ≤ (mx0 (4 - nI a / 30 - 1)).toInt ∧ (mx0 (4 - nI a / 30 - 1)).toInt ≤ 8) := by decide +kernel
theorem kGives_rng (k : Int32) {w : Int32} (h : Bool) (h0 : 0 ≤ w.toInt) (h1 : w.toInt ≤ 99) : 0 ≤ (kGives k w h).toInt ∧ (kGives k w h).toInt ≤ 8 := by
  obtain ⟨a, ha, rfl, -⟩ := nI_ofTi (n := 99) h0 h1
  obtain ⟨t1, t2, t3, t4, t5⟩ := g_tab a (by omega)
  unfold kGives
  have e0 : 0 ≤ (0 : Int32).toInt ∧ (0 : Int32).toInt ≤ 8 := by decide
  have e1 : 0 ≤ (1 : Int32).toInt ∧ (1 : Int32).toInt ≤ 8 := by decide
  cases h
  · simp only [Bool.false_eq_true, if_false]
    generalize mx0 (4 - nI a / 30) = x2 at t2 ⊢
    generalize mx0 (4 - nI a / 30 + 1) = x3 at t3 ⊢
    generalize mx0 (4 - nI a / 30 - 1) = x5 at t5 ⊢
    (repeat' split) <;> first | exact t2 | exact t3 | exact t5 | exact e0 | exact e1
  · simp only [if_true]
    generalize mx0 (4 - nI a / 30 + 3) = x1 at t1 ⊢
    generalize mx0 (4 - nI a / 30) = x2 at t2 ⊢
    generalize mx0 (4 - nI a / 30 + 1) = x3 at t3 ⊢
    generalize mx0 (4 - nI a / 30 + 3 - 1) = x4 at t4 ⊢
    (repeat' split) <;> first | exact t1 | exact t2 | exact t3 | exact t4 | exact e0 | exact e1
theorem kTires_rng (k : Int32) : -3 ≤ (kTires k).toInt ∧ (kTires k).toInt ≤ 10 := by
  unfold kTires
  (repeat' split) <;> decide
/-! rows under writes -/
theorem up2_s (σ : Nu) (a k : Nat) (v : Int32) : up2 σ a k v a k = v := by simp [up2, upd]
theorem up2_n (σ : Nu) {a b : Nat} (k : Nat) (v : Int32) (j : Nat) (h : b ≠ a) : up2 σ a k v b j = σ b j := by simp [up2, h]
theorem up2_k (σ : Nu) (a : Nat) {k j : Nat} (v : Int32) (h : j ≠ k) : up2 σ a k v a j = σ a j := by simp [up2, upd, h]
theorem up2_g (σ : Nu) (a k b j : Nat) (v : Int32) : up2 σ a k v b j = if b = a ∧ j = k then v else σ b j := by
  unfold up2 upd
  by_cases h1 : b = a
  · subst h1
    by_cases h2 : j = k <;> simp [h2]
  · simp [h1]
theorem up2_same (σ : Nu) (a k : Nat) : up2 σ a k (σ a k) = σ := by
  funext b j
  rw [up2_g]
  split
  · rename_i h; rw [h.1, h.2]
  · rfl
theorem up2_up2 (σ : Nu) (a k : Nat) (v w : Int32) : up2 (up2 σ a k v) a k w = up2 σ a k w := by
  funext b j
  simp only [up2_g]
  split <;> rfl
theorem offF_g (σ : Nu) : ∀ (n b j : Nat), offF σ n b j = if b = 6 ∧ j < n then mx0 (σ 6 j - 1) else σ b j
  | 0, b, j => by simp [offF]
  | n + 1, b, j => by
    rw [offF, up2_g, offF_g σ n b j, offF_g σ n 6 n]
    by_cases h1 : b = 6
    · subst h1
      by_cases h2 : j = n
      · subst h2; simp
      · by_cases h3 : j < n
        · simp [h2, h3, Nat.lt_succ_of_lt h3]
        · have : ¬ j < n + 1 := by omega
          simp [h2, h3, this]
    · simp [h1]
theorem tireF_none {σ : Nu} (h : loud σ = none) : tireF σ = up2 σ 0 1 (mx0 (σ 0 1 - 10)) := by unfold tireF; rw [h]
theorem tireF_some {σ : Nu} {p : Nat} (h : loud σ = some p) : tireF σ = playF σ p := by unfold tireF; rw [h]
/-! the invariant -/
theorem Inv.of {σ : Nu} {n d : Nat} (h1 : n ≤ 8) (h2 : σ 0 3 = nI n) (h3 : d < 1000000) (h4 : σ 0 0 = nI d) (h5 : 0 ≤ (σ 0 1).toInt ∧ (σ 0 1).toInt ≤ 99) (h6 : 0 ≤ (σ 0 2).toInt ∧ (σ 0 2).toInt ≤ 9999) (h7 : ∀ p, 0 ≤ (σ 4 p).toInt ∧ (σ 4 p).toInt ≤ 9999) (h8 : ∀ p, 0 ≤ (σ 6 p).toInt ∧ (σ 6 p).toInt ≤ 99) : Inv σ := ⟨⟨n, h1, h2⟩, ⟨d, h3, h4⟩, h5, h6, h7, h8⟩
theorem giveF_rng {σ : Nu} (h : Inv σ) (p : Nat) : 0 ≤ (giveF σ p).toInt ∧ (giveF σ p).toInt ≤ 8 := kGives_rng _ _ h.2.2.1.1 h.2.2.1.2
theorem ti_1 : (1 : Int32).toInt = 1 := rfl
theorem ti_10 : (10 : Int32).toInt = 10 := rfl
theorem ti_4 : (4 : Int32).toInt = 4 := rfl
theorem ti_99 : (99 : Int32).toInt = 99 := rfl
theorem ti_9999 : (9999 : Int32).toInt = 9999 := rfl
theorem ti_0 : (0 : Int32).toInt = 0 := rfl
/-- a nursery that keeps size and day, and whose numbers are in their bounds -/
theorem Inv.keep {σ τ : Nu} (h : Inv σ) (e0 : τ 0 0 = σ 0 0) (e3 : τ 0 3 = σ 0 3) (h5 : 0 ≤ (τ 0 1).toInt ∧ (τ 0 1).toInt ≤ 99) (h6 : 0 ≤ (τ 0 2).toInt ∧ (τ 0 2).toInt ≤ 9999) (h7 : ∀ p, 0 ≤ (τ 4 p).toInt ∧ (τ 4 p).toInt ≤ 9999) (h8 : ∀ p, 0 ≤ (τ 6 p).toInt ∧ (τ 6 p).toInt ≤ 99) : Inv τ := by
  refine Inv.of h.sz8 (by rw [e3]; exact h.sz) h.dyM (by rw [e0]; exact h.dy) h5 h6 h7 h8
theorem inv_playF {σ : Nu} (h : Inv σ) (p : Nat) : Inv (playF σ p) := by
  have hg := giveF_rng h p
  have ht := kTires_rng (σ 2 p)
  obtain ⟨-, -, h5, h6, h7, h8⟩ := id h
  have h1 : Inv (up2 (up2 σ 4 p (mnI 9999 (σ 4 p + giveF σ p))) 0 1 (mx0 (mnI 99 (σ 0 1 + kTires (σ 2 p))))) := by
    refine h.keep (by simp [up2_g]) (by simp [up2_g]) ?_ (by simp [up2_g]; exact h6) ?_ (fun q => by simp [up2_g]; exact h8 q)
    · simp only [up2_g]
      simp only [and_self, if_true]
      rw [mx0_ti, mnI_ti, fb_addI (by omega) (by omega), ti_99]
      split <;> split <;> omega
    · intro q
      simp only [up2_g]
      by_cases hq : q = p
      · subst hq
        simp only [Nat.reduceEqDiff, false_and, if_false, and_self, if_true]
        have := h7 q
        rw [mnI_ti, fb_addI (by omega) (by omega), ti_9999]
        split <;> omega
      · simp [hq]; exact h7 q
  unfold playF
  simp only
  split
  · obtain ⟨-, -, g5, g6, g7, g8⟩ := id h1
    refine h1.keep (by simp [up2_g]) (by simp [up2_g]) (by simp [up2_g] at g5 ⊢; exact g5) ?_ (fun q => by simp [up2_g] at g7 ⊢; exact g7 q) (fun q => by simp [up2_g] at g8 ⊢; exact g8 q)
    simp only [up2_g]
    simp only [and_self, if_true]
    rw [mnI_ti, fb_addI (by rw [ti_1]; omega) (by rw [ti_1]; omega), ti_1, ti_9999]
    split <;> omega
  · exact h1
theorem inv_tireF {σ : Nu} (h : Inv σ) : Inv (tireF σ) := by
  unfold tireF
  split
  · exact inv_playF h _
  · obtain ⟨-, -, h5, h6, h7, h8⟩ := id h
    refine h.keep (by simp [up2_g]) (by simp [up2_g]) ?_ (by simp [up2_g]; exact h6) (fun q => by simp [up2_g]; exact h7 q) (fun q => by simp [up2_g]; exact h8 q)
    simp only [up2_g]
    simp only [and_self, if_true]
    rw [mx0_ti, fb_subI (by rw [ti_10]; omega) (by rw [ti_10]; omega), ti_10]
    split <;> omega
theorem inv_holF {σ : Nu} (h : Inv σ) : Inv (holF σ) := by
  unfold holF
  split
  · obtain ⟨-, -, h5, h6, h7, h8⟩ := id h
    refine h.keep (by simp [up2_g]) (by simp [up2_g]) ?_ (by simp [up2_g]; exact h6) (fun q => by simp [up2_g]; exact h7 q) (fun q => by simp [up2_g]; exact h8 q)
    simp only [up2_g]
    simp only [and_self, if_true]
    rw [mx0_ti, fb_subI (by rw [ti_4]; omega) (by rw [ti_4]; omega), ti_4]
    split <;> omega
  · exact h
theorem inv_offF {σ : Nu} (h : Inv σ) (n : Nat) : Inv (offF σ n) := by
  obtain ⟨-, -, h5, h6, h7, h8⟩ := id h
  refine h.keep (by simp [offF_g]) (by simp [offF_g]) (by simp [offF_g]; exact h5) (by simp [offF_g]; exact h6) (fun q => by simp [offF_g]; exact h7 q) (fun q => ?_)
  rw [offF_g]
  split
  · have := h8 q
    rw [mx0_ti, fb_subI (by rw [ti_1]; omega) (by rw [ti_1]; omega), ti_1]
    split <;> omega
  · exact h8 q
theorem playF_g (σ : Nu) (p : Nat) {b j : Nat} (h : ¬ (b = 4 ∧ j = p)) (h2 : ¬ (b = 0 ∧ (j = 1 ∨ j = 2))) : playF σ p b j = σ b j := by
  unfold playF
  have n1 : ¬ (b = 0 ∧ j = 2) := fun q => h2 ⟨q.1, Or.inr q.2⟩
  have n2 : ¬ (b = 0 ∧ j = 1) := fun q => h2 ⟨q.1, Or.inl q.2⟩
  split <;> simp [up2_g, h, n1, n2]
theorem tireF_g (σ : Nu) {b j : Nat} (h : b ≠ 4) (h2 : ¬ (b = 0 ∧ (j = 1 ∨ j = 2))) : tireF σ b j = σ b j := by
  cases hL : loud σ with
  | some p => rw [tireF_some hL]; exact playF_g σ _ (fun q => h q.1) h2
  | none => rw [tireF_none hL, up2_g, if_neg (fun q => h2 ⟨q.1, Or.inl q.2⟩)]
theorem holF_g (σ : Nu) {b j : Nat} (h2 : ¬ (b = 0 ∧ j = 1)) : holF σ b j = σ b j := by
  unfold holF
  split
  · rw [up2_g, if_neg h2]
  · rfl
theorem dayF_g (σ : Nu) {b j : Nat} (h : b ≠ 4) (h6 : b ≠ 6) (h2 : ¬ (b = 0 ∧ j ≤ 2)) : dayF σ b j = σ b j := by
  unfold dayF
  rw [up2_g, if_neg (fun q => h2 ⟨q.1, by omega⟩), offF_g, if_neg (fun q => h6 q.1), holF_g _ (fun q => h2 ⟨q.1, by omega⟩), tireF_g _ h (fun q => h2 ⟨q.1, by omega⟩)]
theorem ht_size (σ : Nu) (n : Nat) : offF (holF (tireF σ)) n 0 3 = σ 0 3 := by
  rw [offF_g, if_neg (by omega), holF_g _ (by omega), tireF_g _ (by omega) (by omega)]
theorem ht_day (σ : Nu) (n : Nat) : offF (holF (tireF σ)) n 0 0 = σ 0 0 := by
  rw [offF_g, if_neg (by omega), holF_g _ (by omega), tireF_g _ (by omega) (by omega)]
theorem dayF_day (σ : Nu) : dayF σ 0 0 = σ 0 0 + 1 := by simp [dayF, up2_g]
theorem dayF_sz (σ : Nu) : szN (dayF σ) = szN σ := by rw [szN, dayF_g σ (by omega) (by omega) (by omega)]; rfl
theorem inv_dayF {σ : Nu} (h : Inv σ) (hd : dyN σ + 1 < 1000000) : Inv (dayF σ) ∧ dyN (dayF σ) = dyN σ + 1 := by
  have h1 := inv_offF (inv_holF (inv_tireF h)) (szN σ)
  obtain ⟨-, -, h5, h6, h7, h8⟩ := id h1
  have e0 : dayF σ 0 0 = nI (dyN σ + 1) := by rw [dayF_day, h.dy, nI_1]
  refine ⟨Inv.of h.sz8 (by rw [dayF_g σ (by omega) (by omega) (by omega)]; exact h.sz) hd e0 ?_ ?_ ?_ ?_, by rw [dyN, e0, nI_clamp (by omega)]⟩
  · simp only [dayF, up2_g]; exact h5
  · simp only [dayF, up2_g]; exact h6
  · intro p; simp only [dayF, up2_g]; exact h7 p
  · intro p; simp only [dayF, up2_g]; exact h8 p
theorem inv_daysF {σ : Nu} (h : Inv σ) : ∀ k : Nat, dyN σ + k < 1000000 → Inv (daysF σ k) ∧ dyN (daysF σ k) = dyN σ + k
  | 0, _ => ⟨h, rfl⟩
  | k + 1, hk => by
    obtain ⟨h1, h2⟩ := inv_daysF h k (by omega)
    have h3 := inv_dayF h1 (by omega)
    exact ⟨h3.1, by rw [daysF, h3.2, h2]; omega⟩
theorem daysF_sz (σ : Nu) : ∀ k, szN (daysF σ k) = szN σ
  | 0 => rfl
  | k + 1 => by rw [daysF, dayF_sz, daysF_sz σ k]
theorem daysF_1 (σ : Nu) : ∀ k, daysF (dayF σ) k = daysF σ (k + 1)
  | 0 => rfl
  | k + 1 => by rw [daysF, daysF_1 σ k]; rfl
/-! who is heard loudest -/
theorem loudS_pos (σ : Nu) : ∀ k, 0 ≤ (loudS σ k).2
  | 0 => by show (0 : Int32) ≤ 0; decide
  | k + 1 => by
    rw [loudS]
    split
    · rename_i h
      have := loudS_pos σ k
      rw [fa_le] at this ⊢
      rw [fa_lt] at h
      show (0 : Int32).toInt ≤ (hear σ k).toInt
      omega
    · exact loudS_pos σ k
theorem loudS_skip {σ : Nu} {k : Nat} (h : done σ k = true ∨ σ 6 k ≠ 0) : loudS σ (k + 1) = loudS σ k := by
  rw [loudS, if_neg]
  have := loudS_pos σ k
  rw [hear, if_pos h]
  exact Int32.not_lt.mpr this
theorem loudS_loud {σ : Nu} {k : Nat} (h : done σ k = false) (h2 : σ 6 k = 0) (h3 : (loudS σ k).2 < callF σ k) : loudS σ (k + 1) = (some k, callF σ k) := by
  have e : hear σ k = callF σ k := by rw [hear, if_neg]; rintro (q | q); · rw [h] at q; cases q
                                      · exact q h2
  rw [loudS, e, if_pos h3]
theorem loudS_low {σ : Nu} {k : Nat} (h : done σ k = false) (h2 : σ 6 k = 0) (h3 : ¬ (loudS σ k).2 < callF σ k) : loudS σ (k + 1) = loudS σ k := by
  have e : hear σ k = callF σ k := by rw [hear, if_neg]; rintro (q | q); · rw [h] at q; cases q
                                      · exact q h2
  rw [loudS, e, if_neg h3]
theorem loudS_in (σ : Nu) : ∀ k p, (loudS σ k).1 = some p → p < k ∧ done σ p = false ∧ σ 6 p = 0
  | 0, p, h => by cases h
  | k + 1, p, h => by
    rw [loudS] at h
    split at h
    · rename_i h1
      cases h
      rw [hear] at h1
      split at h1
      · exact absurd (Int32.not_lt.mpr (loudS_pos σ k)) (fun q => q h1)
      · rename_i h2
        refine ⟨Nat.lt_succ_self _, ?_, ?_⟩
        · cases hd : done σ k with
          | false => rfl
          | true => exact absurd (Or.inl hd) h2
        · exact Classical.byContradiction (fun q => h2 (Or.inr q))
    · obtain ⟨a, b, c⟩ := loudS_in σ k p h
      exact ⟨Nat.lt_succ_of_lt a, b, c⟩
theorem loud_in {σ : Nu} {p : Nat} (h : loud σ = some p) : p < szN σ ∧ done σ p = false ∧ σ 6 p = 0 := loudS_in σ _ p h
/-! who else isn't done -/
theorem undN_le (σ : Nu) : ∀ n, undN σ n ≤ n
  | 0 => Nat.le_refl 0
  | n + 1 => by rw [undN]; have := undN_le σ n; split <;> omega
theorem undN_pos {σ : Nu} {p : Nat} (hd : done σ p = false) : ∀ n, p < n → 0 < undN σ n
  | 0, h => absurd h (Nat.not_lt_zero _)
  | n + 1, h => by
    rw [undN]
    by_cases e : p = n
    · subst e; rw [hd]; simp
    · have := undN_pos hd n (by omega); omega
theorem ano_out {σ : Nu} {p : Nat} : ∀ n, n ≤ p → (anoN σ p n = true ↔ 0 < undN σ n)
  | 0, _ => by simp [anoN, undN]
  | n + 1, h => by
    have ih := ano_out (σ := σ) (p := p) n (by omega)
    rw [anoN, undN, Bool.or_eq_true, ih]
    have : n ≠ p := by omega
    cases hd : done σ n <;> simp [this]
theorem ano_in {σ : Nu} {p : Nat} : ∀ n, p < n → (anoN σ p n = true ↔ (if done σ p then 0 else 1) < undN σ n)
  | 0, h => absurd h (Nat.not_lt_zero _)
  | n + 1, h => by
    rw [anoN, undN, Bool.or_eq_true]
    by_cases e : p = n
    · subst e
      rw [ano_out p (Nat.le_refl _)]
      cases hd : done σ p <;> simp
    · rw [ano_in n (by omega)]
      have e' : n ≠ p := fun q => e q.symm
      cases hp : done σ p with
      | true => cases hd : done σ n <;> simp [e']
      | false =>
        have h8 := undN_pos hp n (by omega)
        cases hd : done σ n <;> simp [e'] <;> omega
theorem und_0 {m : Nat} (hm : m < 1000) (h : nI m ≤ 0) : m = 0 := by
  rcases Nat.eq_zero_or_pos m with q | q
  · exact q
  · exact absurd h (nI_nle q (by omega))
theorem und_1 {m : Nat} (h : ¬ nI m ≤ 0) : 0 < m := by
  rcases Nat.eq_zero_or_pos m with q | q
  · subst q; exact absurd (by decide) h
  · exact q
theorem callF_t {σ : Nu} {p : Nat} (h : anoN σ p (szN σ) = true) : kCalls (σ 2 p) (σ 3 p) (σ 0 0 - σ 5 p) (σ 0 1) true = callF σ p := by rw [callF, h]
theorem callF_f {σ : Nu} {p : Nat} (h : ¬ anoN σ p (szN σ) = true) : kCalls (σ 2 p) (σ 3 p) (σ 0 0 - σ 5 p) (σ 0 1) false = callF σ p := by rw [callF]; rw [Bool.not_eq_true] at h; rw [h]
/-! done stays done -/
theorem done_play {σ : Nu} {p r : Nat} (h : r ≠ p) : done (playF σ p) r = done σ r := by
  unfold done needF
  rw [playF_g σ p (by omega) (by omega), playF_g σ p (by omega) (by omega), playF_g σ p (fun q => h q.2) (by omega)]
theorem done_tire {σ : Nu} {r : Nat} (h : done σ r = true) : done (tireF σ) r = true := by
  unfold tireF
  split
  · rename_i p hp
    have h1 := loud_in hp
    rw [done_play (fun e => by rw [e, h1.2.1] at h; cases h)]
    exact h
  · unfold done needF at h ⊢
    rw [up2_g, up2_g, up2_g, if_neg (by omega), if_neg (by omega), if_neg (by omega)]
    exact h
theorem done_day {σ : Nu} {r : Nat} (h : done σ r = true) : done (dayF σ) r = true := by
  have h1 := done_tire h
  unfold done needF at h1 ⊢
  unfold dayF
  simp only [up2_g, offF_g]
  rw [if_neg (by omega), if_neg (by omega), if_neg (by omega), if_neg (by omega), if_neg (by omega), if_neg (by omega), holF_g _ (by omega), holF_g _ (by omega), holF_g _ (by omega)]
  exact h1
/-! for the walks -/
theorem holF_t {σ : Nu} (h : hol σ = true) : holF σ = up2 σ 0 1 (mx0 (σ 0 1 - 4)) := by unfold holF; rw [if_pos h]
theorem holF_f {σ : Nu} (h : hol σ = false) : holF σ = σ := by unfold holF; rw [h]; rfl
def setR (σ : Nu) (a : Nat) (f : Nat → Int32) : Nu := fun x => if x = a then f else σ x
def addF (σ : Nu) (kind len du off : Int32) : Nu := up2 (up2 (up2 (up2 (up2 (up2 σ 2 (szN σ) kind) 3 (szN σ) len) 4 (szN σ) 0) 5 (szN σ) du) 6 (szN σ) off) 0 3 (nI (szN σ) + 1)
def gDone (p : Nat) : Nu → Bool := fun τ => done τ p
def gAll : Nu → Bool := fun τ => decide (undN τ (szN τ) = 0)
def gPl (p : Nat) : Nu → Bool := fun τ => decide (loud τ = some p)
/-- days as the class tells them: within most, or 100000 -/
def tR (most t : Nat) : Int32 := if t ≤ most then nI t else 100000
theorem tR_k {m k : Nat} (h : k ≤ m) : tR m (k + 0) = nI k := if_pos h
theorem tR_n {m k : Nat} (h : k = m) : tR m (k + 1) = 100000 := if_neg (by omega)
theorem till_yes {g : Nu → Bool} {τ : Nu} (h : g τ = true) (f : Nat) : till g f τ = 0 := by cases f <;> simp [till, h]
theorem till_no {g : Nu → Bool} {τ : Nu} (h : g τ = false) (f : Nat) : till g (f + 1) τ = till g f (dayF τ) + 1 := by simp [till, h]
theorem till_0n {g : Nu → Bool} {τ : Nu} (h : g τ = false) : till g 0 τ = 1 := by simp [till, h]
theorem till_le (g : Nu → Bool) : ∀ (f : Nat) (τ : Nu), till g f τ ≤ f + 1
  | 0, τ => by rw [till]; split <;> omega
  | f + 1, τ => by rw [till]; have := till_le g f (dayF τ); split <;> omega
theorem oI_lt {σ : Nu} {p : Nat} (h : Inv σ) (hp : p < 8) : oI (loud σ) = nI p ↔ loud σ = some p := by
  cases hL : loud σ with
  | none =>
    constructor
    · intro e
      have : (-1 : Int32) = nI p := e
      have h2 := congrArg Int32.toInt this
      rw [nI_toInt (by omega)] at h2
      have h3 : (-1 : Int32).toInt = -1 := by decide
      omega
    · intro e; cases e
  | some r =>
    have h1 := loud_in hL
    have h8 := h.sz8
    show nI r = nI p ↔ _
    rw [nI_eq (by omega) (by omega)]
    exact ⟨fun e => by rw [e], fun e => Option.some.inj e⟩
theorem all_t {m : Nat} (hm : m ≤ 8) (h : nI m = 0) : m = 0 := (nI_eq (a := m) (b := 0) (by omega) (by omega)).mp h
theorem all_f {m : Nat} (h : ¬ nI m = 0) : ¬ m = 0 := fun e => h (by rw [e]; rfl)
theorem pl_step {p most k d : Nat} {σ : Nu} (hT : till (gPl p) (most - 1) σ = k + till (gPl p) d (daysF σ k)) (h : gPl p (daysF σ k) = false) : d = 0 ∧ k + 1 ≤ till (gPl p) (most - 1) σ ∨ ∃ e, d = e + 1 ∧ till (gPl p) (most - 1) σ = k + 1 + till (gPl p) e (daysF σ (k + 1)) := by
  cases d with
  | zero => rw [till_0n h] at hT; exact Or.inl ⟨rfl, by omega⟩
  | succ e => rw [till_no h] at hT; exact Or.inr ⟨e, rfl, by rw [hT]; show _ = k + 1 + till (gPl p) e (dayF (daysF σ k)); omega⟩
theorem pl_succ {a k d : Nat} {f : Nat → Nat} (h : d + 1 = 0 ∧ k ≤ a ∨ ∃ e, d + 1 = e + 1 ∧ a = k + f e) : a = k + f d := by
  rcases h with ⟨h1, -⟩ | ⟨e, h1, h2⟩
  · omega
  · have : e = d := by omega
    rw [this] at h2; exact h2
theorem pl_zero {a k : Nat} {f : Nat → Nat} (h : 0 = 0 ∧ k ≤ a ∨ ∃ e, 0 = e + 1 ∧ a = k + f e) : k ≤ a := by
  rcases h with ⟨-, h2⟩ | ⟨e, h1, -⟩
  · exact h2
  · omega
