/-! The model's one row of a nursery, and the state that both sides hold; what each call does to it. -/
def mm (σ : Nu) : Nat → Int32 := fun j => if j < 4 then σ 0 j else if j < 11 then σ 1 (j - 4) else σ (2 + (j - 11) % 5) ((j - 11) / 5)
theorem mm_sc (σ : Nu) {k : Nat} (h : k < 4) : mm σ k = σ 0 k := by unfold mm; rw [if_pos h]
theorem mm_fr (σ : Nu) {k : Nat} (h : k < 7) : mm σ (4 + k) = σ 1 k := by
  unfold mm; rw [if_neg (by omega), if_pos (by omega), Nat.add_sub_cancel_left]
theorem mm_it (σ : Nu) (p : Nat) {w : Nat} (h : w < 5) : mm σ (11 + 5 * p + w) = σ (2 + w) p := by
  unfold mm; rw [if_neg (by omega), if_neg (by omega), show (11 + 5 * p + w - 11) % 5 = w from by omega, show (11 + 5 * p + w - 11) / 5 = p from by omega]
theorem mm_usc (σ : Nu) {k : Nat} (v : Int32) (h : k < 4) : upd (mm σ) k v = mm (up2 σ 0 k v) := by
  funext j
  unfold mm upd
  simp only [up2_g]
  by_cases h1 : j < 4
  · simp [h1]
  · have : j ≠ k := by omega
    by_cases h2 : j < 11 <;> simp [h1, h2, this]
theorem mm_ufr (σ : Nu) {k : Nat} (v : Int32) (h : k < 7) : upd (mm σ) (4 + k) v = mm (up2 σ 1 k v) := by
  funext j
  unfold mm upd
  simp only [up2_g]
  by_cases h1 : j < 4
  · have : j ≠ 4 + k := by omega
    simp [h1, this]
  · by_cases h2 : j < 11
    · have e : (j = 4 + k) = (j - 4 = k) := propext (by omega)
      simp [h1, h2, e]
    · have : j ≠ 4 + k := by omega
      have h3 : ¬ 2 + (j - 11) % 5 = 1 := by omega
      simp [h1, h2, this, h3]
theorem mm_uit (σ : Nu) (p : Nat) {w : Nat} (v : Int32) (h : w < 5) : upd (mm σ) (11 + 5 * p + w) v = mm (up2 σ (2 + w) p v) := by
  funext j
  unfold mm upd
  simp only [up2_g]
  by_cases h1 : j < 4
  · have : j ≠ 11 + 5 * p + w := by omega
    have h3 : (0 : Nat) ≠ 2 + w := by omega
    simp [h1, this, h3]
  · by_cases h2 : j < 11
    · have : j ≠ 11 + 5 * p + w := by omega
      have h3 : (1 : Nat) ≠ 2 + w := by omega
      simp [h1, h2, this, h3]
    · have e : (j = 11 + 5 * p + w) = (2 + (j - 11) % 5 = 2 + w ∧ (j - 11) / 5 = p) := propext (by omega)
      simp [h1, h2, e]
def inI (v lo hi : Int32) : Bool := decide (lo ≤ v ∧ v ≤ hi)
def inL (v : Int64) (lo hi : Int32) : Bool := decide (lo.toInt64 ≤ v ∧ v ≤ hi.toInt64)
theorem wide_le (a b : Int32) : a.toInt64 ≤ b.toInt64 ↔ a ≤ b := by rw [Int64.le_iff_toInt_le, Int32.le_iff_toInt_le, Int32.toInt_toInt64, Int32.toInt_toInt64]
theorem inL_i (v lo hi : Int32) : inL v.toInt64 lo hi = inI v lo hi := by unfold inL inI; simp only [wide_le]
theorem inI_t {v lo hi : Int32} (h : inI v lo hi = true) : lo ≤ v ∧ v ≤ hi := of_decide_eq_true h
theorem inI_f {v lo hi : Int32} (h : inI v lo hi = false) : ¬ (lo ≤ v ∧ v ≤ hi) := of_decide_eq_false h
/-- a number that stands in a row of n -/
theorem in_n {p : Int32} {n : Nat} (hn : n < 1000) (h : inI p 0 (nI n - 1) = true) : ∃ k : Nat, k < n ∧ p = nI k := by
  obtain ⟨h1, h2⟩ := inI_t h
  rw [fa_le] at h1 h2
  have e : (nI n - 1).toInt = (n : Int) - 1 := by
    rw [fb_subI (by rw [nI_toInt (by omega), ti_1]; omega) (by rw [nI_toInt (by omega), ti_1]; omega), nI_toInt (by omega), ti_1]
  rw [e] at h2
  have h3 : (0 : Int32).toInt = 0 := rfl
  rw [h3] at h1
  obtain ⟨k, hk, hk2, hk3⟩ := nI_ofTi (x := p) (n := n) h1 (by omega)
  exact ⟨k, by omega, hk2⟩
theorem in_k {p M : Int32} {m : Nat} (hM : M.toInt = m) (h : inI p 0 M = true) : ∃ k : Nat, k ≤ m ∧ p = nI k := by
  obtain ⟨h1, h2⟩ := inI_t h
  rw [fa_le] at h1 h2
  rw [hM] at h2
  have h3 : (0 : Int32).toInt = 0 := rfl
  rw [h3] at h1
  obtain ⟨k, hk, hk2, hk3⟩ := nI_ofTi (x := p) (n := m) h1 h2
  exact ⟨k, hk, hk2⟩
theorem in_c {p L M : Int32} {a m : Nat} (hL : L.toInt = a) (hM : M.toInt = m) (h : inI p L M = true) : ∃ k : Nat, a ≤ k ∧ k ≤ m ∧ p = nI k := by
  obtain ⟨h1, h2⟩ := inI_t h
  rw [fa_le] at h1 h2
  rw [hM] at h2
  rw [hL] at h1
  obtain ⟨k, hk, hk2, hk3⟩ := nI_ofTi (x := p) (n := m) (by omega) h2
  exact ⟨k, by omega, hk, hk2⟩
def fcode (k : Nat) : Int32 := -1000000001 - nI k
theorem fc_sub : ∀ k, k < 7 → (-1000000001 : Int32) - fcode k = nI k := by decide +kernel
theorem fc_neg : ∀ k, k < 7 → fcode k < 0 := by decide +kernel
/-- the state: nursery, image, is it kept, findings, tape, its length, the sheets' bits, sizes, numbers -/
abbrev St : Type := Nu × Nu × Bool × (Nat → Int32) × (Nat → Int32) × Nat × (Nat → Int32) × (Nat → Nat) × (Nat → Nat → Int64)
abbrev sN (S : St) : Nu := S.1
abbrev sK (S : St) : Nu := S.2.1
abbrev sP (S : St) : Bool := S.2.2.1
abbrev sF (S : St) : Nat → Int32 := S.2.2.2.1
abbrev sT (S : St) : Nat → Int32 := S.2.2.2.2.1
abbrev sL (S : St) : Nat := S.2.2.2.2.2.1
abbrev sB (S : St) : Nat → Int32 := S.2.2.2.2.2.2.1
abbrev sZ (S : St) : Nat → Nat := S.2.2.2.2.2.2.2.1
abbrev sC (S : St) : Nat → Nat → Int64 := S.2.2.2.2.2.2.2.2
def stN (S : St) (σ : Nu) : St := (σ, S.2)
def stK (S : St) (κ : Nu) (b : Bool) : St := (S.1, κ, b, S.2.2.2)
def stF (S : St) (f : Nat → Int32) : St := (S.1, S.2.1, S.2.2.1, f, S.2.2.2.2)
def stT (S : St) (t : Nat → Int32) (n : Nat) : St := (S.1, S.2.1, S.2.2.1, S.2.2.2.1, t, n, S.2.2.2.2.2.2)
def stB (S : St) (b : Nat → Int32) (z : Nat → Nat) (c : Nat → Nat → Int64) : St := (S.1, S.2.1, S.2.2.1, S.2.2.2.1, S.2.2.2.2.1, S.2.2.2.2.2.1, b, z, c)
def fnd (S : St) (k : Nat) : St := stF S (upd (sF S) k (sF S k + 1))
abbrev RS : Type := Int32 × St
def bad (S : St) (k : Nat) : RS := (fcode k, fnd S k)
abbrev pN (p : Int32) : Nat := p.toNatClampNeg
def isP (S : St) (p : Int32) : Bool := inI p 0 (sN S 0 3 - 1)
def sp_weary (v : Int32) (S : St) : RS := if inI v 0 99 then (sN S 0 1, stN S (up2 (sN S) 0 1 v)) else bad S 0
def sp_free (pl v : Int32) (S : St) : RS := if inI pl 0 6 then (if inI v 0 1 then (sN S 1 (pN pl), stN S (up2 (sN S) 1 (pN pl) v)) else bad S 0) else bad S 0
def sp_now (w : Int32) (S : St) : RS := if w = 0 then (sN S 0 0, S) else if w = 1 then (bI (hol (sN S)), S) else if w = 2 then (sN S 0 1, S) else if w = 3 then (sN S 0 2, S) else if w = 4 then (oI (loud (sN S)), S) else if w = 5 then (setF (sN S) (done (sN S)) (szN (sN S)), S) else if w = 6 then (setF (sN S) (behF (sN S)) (szN (sN S)), S) else bad S 0
def sp_part (k d : Int32) (S : St) : RS := if inI k 0 5 then (if inI d 0 9999 then (if szN (sN S) = 8 then bad S 1 else (nI (szN (sN S)), stN S (addF (sN S) k 10 d 0))) else bad S 0) else bad S 0
def sp_of (p w : Int32) (S : St) : RS := if isP S p then (if w = 0 then (sN S 2 (pN p), S) else if w = 1 then (sN S 3 (pN p), S) else if w = 2 then (sN S 4 (pN p), S) else if w = 3 then (sN S 5 (pN p), S) else if w = 4 then (sN S 6 (pN p), S) else if w = 5 then (needF (sN S) (pN p), S) else if w = 6 then (giveF (sN S) (pN p), S) else if w = 7 then (callF (sN S) (pN p), S) else if w = 8 then (100 + kTires (sN S 2 (pN p)), S) else if w = 9 then (bI (done (sN S) (pN p)), S) else bad S 0) else bad S 0
def sp_set (p w v : Int32) (S : St) : RS := if isP S p then (if w = 1 then (if inI v 1 99 then (sN S 3 (pN p), stN S (up2 (sN S) 3 (pN p) v)) else bad S 0) else if w = 2 then (if inI v 0 9999 then (sN S 4 (pN p), stN S (up2 (sN S) 4 (pN p) v)) else bad S 0) else if w = 3 then (if inI v 0 9999 then (sN S 5 (pN p), stN S (up2 (sN S) 5 (pN p) v)) else bad S 0) else if w = 4 then (if inI v 0 99 then (sN S 6 (pN p), stN S (up2 (sN S) 6 (pN p) v)) else bad S 0) else bad S 0) else bad S 0
def sp_turn (p k : Int32) (S : St) : RS := if isP S p then (if inI k 0 5 then (sN S 2 (pN p), stN S (up2 (sN S) 2 (pN p) k)) else bad S 0) else bad S 0
def sp_as (p k : Int32) (S : St) : RS := if isP S p then (if inI k 0 5 then (if sN S 2 (pN p) = k ∨ k = 0 ∨ (sN S 2 (pN p) = 4 ∧ k = 1) ∨ (sN S 2 (pN p) = 5 ∧ k = 2) then (sN S 4 (pN p), S) else bad S 2) else bad S 0) else bad S 0
def sp_left (p : Int32) (S : St) : RS := if isP S p then (mx0 (needF (sN S) (pN p) - sN S 4 (pN p)), S) else bad S 0
def sp_days (n : Int32) (S : St) : RS := if inI n 1 100 then (if 9999 < sN S 0 0 + n then bad S 4 else (setF (daysF (sN S) (pN n)) (done (daysF (sN S) (pN n))) (szN (sN S)), stN S (daysF (sN S) (pN n)))) else bad S 0
def sp_on (p n w : Int32) (S : St) : RS := if isP S p then (if inI n 0 400 then (if inI w 0 1 then (if w = 0 then daysF (sN S) (pN n) 4 (pN p) else bI (done (daysF (sN S) (pN n)) (pN p)), S) else bad S 0) else bad S 0) else bad S 0
def sp_then (n w : Int32) (S : St) : RS := if inI n 0 400 then (if inI w 0 2 then (if w = 0 then daysF (sN S) (pN n) 0 1 else if w = 1 then daysF (sN S) (pN n) 0 2 else nI (szN (sN S) - undN (daysF (sN S) (pN n)) (szN (sN S))), S) else bad S 0) else bad S 0
/-- a number of days, or NONE -/
def orN (S : St) (most t : Nat) : RS := if t ≤ most then (nI t, S) else bad S 3
def sp_done (p : Int32) (S : St) : RS := if isP S p then orN S 400 (till (gDone (pN p)) 400 (sN S)) else bad S 0
def sp_all (S : St) : RS := orN S 400 (till gAll 400 (sN S))
def sp_played (p : Int32) (S : St) : RS := if isP S p then orN S 400 (till (gPl (pN p)) 399 (sN S) + 1) else bad S 0
def sp_wipe (S : St) : RS := (nI (sL S), stT S (sT S) 0)
def sp_image (S : St) : RS := (1, stK S (sN S) true)
def sp_undo (S : St) : RS := if sP S then (sK S 0 3, stN S (sK S)) else bad S 3
def sp_tear (S : St) : RS := (bI (sP S), stK S (sK S) false)
def sumF (f : Nat → Int32) : Nat → Int32 | 0 => 0 | k + 1 => sumF f k + f k
def sp_count (w : Int32) (S : St) : RS := if w = 0 then (sN S 0 3, S) else if w = 1 then (nI (sL S), S) else if w = 2 then (sumF (sN S 1) 7, S) else if w = 3 then (sumF (sN S 4) (szN (sN S)), S) else bad S 0
def sp_status (w : Int32) (S : St) : RS := if inI w (-1) 6 then (if w < 0 then sumF (sF S) 7 else sF S (pN w), S) else bad S 0
