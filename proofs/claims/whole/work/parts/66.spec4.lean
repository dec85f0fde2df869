/-! The text: tokens and items, as both sides read them. -/
abbrev TF : Type := Nat → Int32
/-- a byte as the class holds it -/
def bt (v : Int32) : Int32 := v.toInt8.toInt32
def okT (t : TF) : Prop := ∀ k, ∃ m : Nat, m < 256 ∧ t k = nI m
theorem bt_tab : ∀ m, m < 256 → (bt (nI m)).toInt = if m < 128 then (m : Int) else (m : Int) - 256 := by decide +kernel
theorem bt_in {t : TF} (hT : okT t) (k : Nat) {lo hi : Int32} (h0 : 0 ≤ lo.toInt) (h1 : hi.toInt ≤ 127) : inI (bt (t k)) lo hi = inI (t k) lo hi := by
  obtain ⟨m, hm, e⟩ := hT k
  rw [e]
  unfold inI
  simp only [fa_le, bt_tab m hm, nI_toInt (n := m) (by omega)]
  apply decide_eq_decide.mpr
  split <;> omega
theorem bt_eq {t : TF} (hT : okT t) (k : Nat) {c : Int32} (h0 : 0 ≤ c.toInt) (h1 : c.toInt ≤ 127) : bt (t k) = c ↔ t k = c := by
  obtain ⟨m, hm, e⟩ := hT k
  rw [e, fa_eq, fa_eq, bt_tab m hm, nI_toInt (n := m) (by omega)]
  split <;> omega
def isb (t : TF) (n : Nat) (lo hi : Int32) (k : Nat) : Bool := decide (k < n) && inI (t k) lo hi
theorem isb_t {t : TF} {n k : Nat} {lo hi : Int32} (h : k < n) (g : inI (t k) lo hi = true) : isb t n lo hi k = true := by simp [isb, h, g]
theorem isb_f {t : TF} {n k : Nat} {lo hi : Int32} (g : inI (t k) lo hi = false) : isb t n lo hi k = false := by simp [isb, g]
theorem isb_n {t : TF} {n k : Nat} {lo hi : Int32} (h : ¬ k < n) : isb t n lo hi k = false := by simp [isb, h]
theorem isb_1 {t : TF} {n k : Nat} {lo hi : Int32} (h : isb t n lo hi k = true) : k < n ∧ inI (t k) lo hi = true := by simpa [isb] using h
theorem in_one {v c : Int32} : inI v c c = true ↔ v = c := by
  unfold inI
  rw [decide_eq_true_iff]
  constructor
  · intro h
    exact Int32.le_antisymm h.2 h.1
  · intro h
    subst h
    exact ⟨Int32.le_refl _, Int32.le_refl _⟩
/-- the end of a run -/
def rn (t : TF) (n : Nat) (lo hi : Int32) : Nat → Nat → Nat | 0, k => k | f + 1, k => if isb t n lo hi k then rn t n lo hi f (k + 1) else k
def sk (t : TF) (n : Nat) (lo hi : Int32) (k : Nat) : Nat := rn t n lo hi (n - k) k
theorem sk_t {t : TF} {n k : Nat} {lo hi : Int32} (h : isb t n lo hi k = true) : sk t n lo hi k = sk t n lo hi (k + 1) := by
  have hk := (isb_1 h).1
  unfold sk
  rw [show n - k = (n - (k + 1)) + 1 from by omega, rn, if_pos h]
theorem sk_f {t : TF} {n k : Nat} {lo hi : Int32} (h : isb t n lo hi k = false) : sk t n lo hi k = k := by
  unfold sk
  cases n - k with
  | zero => rfl
  | succ f => rw [rn, if_neg (by rw [h]; decide)]
theorem rn_le (t : TF) (n : Nat) (lo hi : Int32) : ∀ f k, k ≤ rn t n lo hi f k ∧ rn t n lo hi f k ≤ k + f
  | 0, k => ⟨Nat.le_refl _, Nat.le_refl _⟩
  | f + 1, k => by
    rw [rn]
    split
    · have := rn_le t n lo hi f (k + 1); omega
    · omega
theorem rn_in (t : TF) (n : Nat) (lo hi : Int32) : ∀ f k j, k ≤ j → j < rn t n lo hi f k → isb t n lo hi j = true
  | 0, k, j, h1, h2 => by have : j < k := h2; omega
  | f + 1, k, j, h1, h2 => by
    rw [rn] at h2
    split at h2
    · rename_i h
      by_cases e : j = k
      · subst e; exact h
      · exact rn_in t n lo hi f (k + 1) j (by omega) h2
    · omega
theorem sk_le (t : TF) (n : Nat) (lo hi : Int32) (k : Nat) : k ≤ sk t n lo hi k := (rn_le t n lo hi _ k).1
theorem sk_n (t : TF) (lo hi : Int32) {n k : Nat} (h : k ≤ n) : sk t n lo hi k ≤ n := by
  have := (rn_le t n lo hi (n - k) k).2
  unfold sk; omega
theorem sk_in {t : TF} {n k j : Nat} {lo hi : Int32} (h1 : k ≤ j) (h2 : j < sk t n lo hi k) : isb t n lo hi j = true := rn_in t n lo hi _ k j h1 h2
theorem sk_s {t : TF} {n k : Nat} {lo hi : Int32} (h : isb t n lo hi k = true) : k < sk t n lo hi k := by
  rw [sk_t h]; have := sk_le t n lo hi (k + 1); omega
/-- a number's digits -/
def dgt (v : Nat) (c : Int32) : Nat := if 9999 < v then v else 10 * v + (pN c - 48)
def nvf (t : TF) (n : Nat) : Nat → Nat → Nat → Nat | 0, v, _ => v | f + 1, v, k => if isb t n 48 57 k then nvf t n f (dgt v (t k)) (k + 1) else v
def nv (t : TF) (n v k : Nat) : Nat := nvf t n (n - k) v k
theorem nv_t {t : TF} {n v k : Nat} (h : isb t n 48 57 k = true) : nv t n v k = nv t n (dgt v (t k)) (k + 1) := by
  have hk := (isb_1 h).1
  unfold nv
  rw [show n - k = (n - (k + 1)) + 1 from by omega, nvf, if_pos h]
theorem nv_f {t : TF} {n v k : Nat} (h : isb t n 48 57 k = false) : nv t n v k = v := by
  unfold nv
  cases n - k with
  | zero => rfl
  | succ f => rw [nvf, if_neg (by rw [h]; decide)]
theorem dig_k {t : TF} {k : Nat} (hT : okT t) (h : inI (t k) 48 57 = true) : ∃ d : Nat, d < 10 ∧ t k = nI (48 + d) ∧ pN (t k) - 48 = d := by
  obtain ⟨m, hm, e⟩ := hT k
  obtain ⟨c, h1, h2, h3⟩ := in_c (L := 48) (M := 57) (a := 48) (m := 57) rfl rfl h
  refine ⟨c - 48, by omega, ?_, ?_⟩
  · rw [h3]; congr 1; omega
  · rw [h3, show pN (nI c) = c from nI_clamp (by omega)]
theorem dgt_le {v : Nat} {c : Int32} (h : pN c - 48 < 10) (hv : v ≤ 99999) : dgt v c ≤ 99999 := by
  unfold dgt
  split <;> omega
/-- the class's number is held just above the most -/
theorem dgt_m {v : Nat} {c : Int32} (h : pN c - 48 < 10) : min 10000 (dgt v c) = min 10000 (10 * min 10000 v + (pN c - 48)) := by
  unfold dgt
  split <;> omega
/-- a word -/
def wEq (t : TF) (b m w : Nat) : Bool := decide (m = wLen w ∧ ∀ i, i < m → t (b + i) = ltr w i)
def wF (t : TF) (b m : Nat) : Nat → Nat → Nat | 0, _ => 24 | f + 1, w => if wEq t b m w then w else wF t b m f (w + 1)
def wI (t : TF) (b m : Nat) : Nat := wF t b m 11 0
theorem wF_c (t : TF) (b m : Nat) : ∀ f w, w + f = 11 → (wF t b m f w = 24 ∧ ∀ v, w ≤ v → v < 11 → wEq t b m v = false) ∨ (w ≤ wF t b m f w ∧ wF t b m f w < 11 ∧ wEq t b m (wF t b m f w) = true)
  | 0, w, h => Or.inl ⟨rfl, fun v h1 h2 => by omega⟩
  | f + 1, w, h => by
    rw [wF]
    cases e : wEq t b m w with
    | true => exact Or.inr ⟨Nat.le_refl _, by simp only [if_true]; omega, by simp only [if_true]; exact e⟩
    | false =>
      simp only [Bool.false_eq_true, if_false]
      rcases wF_c t b m f (w + 1) (by omega) with ⟨h1, h2⟩ | ⟨h1, h2, h3⟩
      · refine Or.inl ⟨h1, fun v g1 g2 => ?_⟩
        by_cases q : v = w
        · subst q; exact e
        · exact h2 v (by omega) g2
      · exact Or.inr ⟨by omega, h2, h3⟩
/-- two words have not all letters in common -/
theorem wd_apart : ∀ v, v < 11 → ∀ w, w < 11 → wLen v = wLen w → (∀ i, i < wLen v → ltr v i = ltr w i) → v = w := by decide +kernel
theorem wI_eq {t : TF} {b m w : Nat} (hw : w < 11) : wEq t b m w = decide (wI t b m = w) := by
  rcases wF_c t b m 11 0 rfl with ⟨h1, h2⟩ | ⟨-, h2, h3⟩
  · rw [h2 w (by omega) hw]
    unfold wI
    rw [h1]
    exact (decide_eq_false (by omega)).symm
  · unfold wI
    generalize wF t b m 11 0 = v at h2 h3 ⊢
    by_cases e : v = w
    · subst e
      rw [h3]
      exact (decide_eq_true rfl).symm
    · rw [decide_eq_false e]
      cases q : wEq t b m w with
      | false => rfl
      | true =>
        obtain ⟨a1, a2⟩ := of_decide_eq_true h3
        obtain ⟨b1, b2⟩ := of_decide_eq_true q
        exact absurd (wd_apart v h2 w hw (a1.symm.trans b1) (fun i hi => (a2 i (by omega)).symm.trans (b2 i (by omega)))) e
theorem wI_c (t : TF) (b m : Nat) : wI t b m < 11 ∨ wI t b m = 24 := by
  rcases wF_c t b m 11 0 rfl with ⟨h1, -⟩ | ⟨-, h2, -⟩
  · exact Or.inr h1
  · exact Or.inl h2
/-- a token: what it is (0 to 10 a word, 20 a number, 21 ;, 22 the end, 23 a byte that begins none, 24 another word), where it begins, what is behind it, its number -/
abbrev RT : Type := Nat × Nat × Nat × Nat
abbrev rK (r : RT) : Nat := r.1
abbrev rB (r : RT) : Nat := r.2.1
abbrev rA (r : RT) : Nat := r.2.2.1
abbrev rV (r : RT) : Nat := r.2.2.2
def rdB (t : TF) (n b : Nat) : RT := if b < n then (if inI (t b) 97 122 then (wI t b (sk t n 97 122 b - b), b, sk t n 97 122 b, 0) else if inI (t b) 48 57 then (20, b, sk t n 48 57 b, nv t n 0 b) else if t b = 59 then (21, b, b + 1, 0) else (23, b, b + 1, 0)) else (22, b, b, 0)
def rdT (t : TF) (n p : Nat) : RT := rdB t n (sk t n 32 32 p)
theorem rd_end {t : TF} {n p b : Nat} (h : sk t n 32 32 p = b) (g : ¬ b < n) : rdT t n p = (22, b, b, 0) := by unfold rdT; rw [h]; unfold rdB; rw [if_neg g]
theorem rd_word {t : TF} {n p b e : Nat} (h : sk t n 32 32 p = b) (g : b < n) (g1 : inI (t b) 97 122 = true) (he : sk t n 97 122 b = e) : rdT t n p = (wI t b (e - b), b, e, 0) := by unfold rdT; rw [h]; unfold rdB; rw [if_pos g, if_pos g1, he]
theorem rd_num {t : TF} {n p b e v : Nat} (h : sk t n 32 32 p = b) (g : b < n) (g1 : inI (t b) 97 122 = false) (g2 : inI (t b) 48 57 = true) (he : sk t n 48 57 b = e) (hv : nv t n 0 b = v) : rdT t n p = (20, b, e, v) := by unfold rdT; rw [h]; unfold rdB; rw [if_pos g, if_neg (by rw [g1]; decide), if_pos g2, he, hv]
theorem rd_semi {t : TF} {n p b : Nat} (h : sk t n 32 32 p = b) (g : b < n) (g1 : inI (t b) 97 122 = false) (g2 : inI (t b) 48 57 = false) (g3 : t b = 59) : rdT t n p = (21, b, b + 1, 0) := by unfold rdT; rw [h]; unfold rdB; rw [if_pos g, if_neg (by rw [g1]; decide), if_neg (by rw [g2]; decide), if_pos g3]
theorem rd_oth {t : TF} {n p b : Nat} (h : sk t n 32 32 p = b) (g : b < n) (g1 : inI (t b) 97 122 = false) (g2 : inI (t b) 48 57 = false) (g3 : ¬ t b = 59) : rdT t n p = (23, b, b + 1, 0) := by unfold rdT; rw [h]; unfold rdB; rw [if_pos g, if_neg (by rw [g1]; decide), if_neg (by rw [g2]; decide), if_neg g3]
/-- a token that was read off this tape -/
def RW (t : TF) (n : Nat) (r : RT) : Prop := ∃ p : Nat, p ≤ n ∧ r = rdT t n p
def nx (t : TF) (n : Nat) (r : RT) : RT := rdT t n (rA r)
theorem rd_a {t : TF} {n p : Nat} (h : p ≤ n) : p ≤ rB (rdT t n p) ∧ rB (rdT t n p) ≤ rA (rdT t n p) ∧ rA (rdT t n p) ≤ n ∧ (rK (rdT t n p) = 22 ∨ rB (rdT t n p) < rA (rdT t n p)) ∧ (rK (rdT t n p) ≤ 10 ∨ 20 ≤ rK (rdT t n p) ∧ rK (rdT t n p) ≤ 24) ∧ ((rK (rdT t n p) < 20 ∨ rK (rdT t n p) = 24) → rK (rdT t n p) = wI t (rB (rdT t n p)) (rA (rdT t n p) - rB (rdT t n p)) ∧ ∀ j, rB (rdT t n p) ≤ j → j < rA (rdT t n p) → inI (t j) 97 122 = true) := by
  have hb := sk_le t n 32 32 p
  have hb2 := sk_n t 32 32 h
  unfold rdT
  generalize sk t n 32 32 p = b at hb hb2 ⊢
  unfold rdB
  by_cases g : b < n
  · rw [if_pos g]
    by_cases g1 : inI (t b) 97 122 = true
    · rw [if_pos g1]
      have e1 := sk_s (isb_t g g1)
      have e2 := sk_n t 97 122 (show b ≤ n from by omega)
      refine ⟨hb, by show b ≤ sk t n 97 122 b; omega, e2, Or.inr e1, ?_, fun _ => ⟨rfl, fun j h1 h2 => (isb_1 (sk_in h1 h2)).2⟩⟩
      show wI t b _ ≤ 10 ∨ 20 ≤ wI t b _ ∧ wI t b _ ≤ 24
      rcases wI_c t b (sk t n 97 122 b - b) with q | q <;> omega
    · rw [if_neg g1]
      by_cases g2 : inI (t b) 48 57 = true
      · rw [if_pos g2]
        have e1 := sk_s (isb_t g g2)
        have e2 := sk_n t 48 57 (show b ≤ n from by omega)
        exact ⟨hb, by show b ≤ sk t n 48 57 b; omega, e2, Or.inr e1, Or.inr ⟨Nat.le_of_ble_eq_true rfl, Nat.le_of_ble_eq_true rfl⟩, fun q => absurd (show (20 : Nat) < 20 ∨ (20 : Nat) = 24 from q) (by decide)⟩
      · rw [if_neg g2]
        split
        · exact ⟨hb, Nat.le_succ b, g, Or.inr (Nat.lt_succ_self b), Or.inr ⟨Nat.le_of_ble_eq_true rfl, Nat.le_of_ble_eq_true rfl⟩, fun q => absurd (show (21 : Nat) < 20 ∨ (21 : Nat) = 24 from q) (by decide)⟩
        · exact ⟨hb, Nat.le_succ b, g, Or.inr (Nat.lt_succ_self b), Or.inr ⟨Nat.le_of_ble_eq_true rfl, Nat.le_of_ble_eq_true rfl⟩, fun q => absurd (show (23 : Nat) < 20 ∨ (23 : Nat) = 24 from q) (by decide)⟩
  · rw [if_neg g]
    exact ⟨hb, Nat.le_refl _, hb2, Or.inl rfl, Or.inr ⟨Nat.le_of_ble_eq_true rfl, Nat.le_of_ble_eq_true rfl⟩, fun q => absurd (show (22 : Nat) < 20 ∨ (22 : Nat) = 24 from q) (by decide)⟩
theorem RW.nxt {t : TF} {n : Nat} {r : RT} (h : RW t n r) : RW t n (nx t n r) := by
  obtain ⟨p, hp, rfl⟩ := h
  exact ⟨_, (rd_a hp).2.2.1, rfl⟩
theorem RW.an {t : TF} {n : Nat} {r : RT} (h : RW t n r) : rA r ≤ n := by obtain ⟨p, hp, rfl⟩ := h; exact (rd_a hp).2.2.1
theorem RW.ba {t : TF} {n : Nat} {r : RT} (h : RW t n r) : rB r ≤ rA r := by obtain ⟨p, hp, rfl⟩ := h; exact (rd_a hp).2.1
theorem RW.st {t : TF} {n : Nat} {r : RT} (h : RW t n r) : rK r = 22 ∨ rB r < rA r := by obtain ⟨p, hp, rfl⟩ := h; exact (rd_a hp).2.2.2.1
theorem RW.kk {t : TF} {n : Nat} {r : RT} (h : RW t n r) : rK r ≤ 10 ∨ 20 ≤ rK r ∧ rK r ≤ 24 := by obtain ⟨p, hp, rfl⟩ := h; exact (rd_a hp).2.2.2.2.1
theorem RW.wd {t : TF} {n : Nat} {r : RT} (h : RW t n r) (g : rK r < 20 ∨ rK r = 24) : rK r = wI t (rB r) (rA r - rB r) ∧ ∀ j, rB r ≤ j → j < rA r → inI (t j) 97 122 = true := by obtain ⟨p, hp, rfl⟩ := h; exact (rd_a hp).2.2.2.2.2 g
theorem RW.step {t : TF} {n : Nat} {r : RT} (h : RW t n r) : rA r ≤ rB (nx t n r) := by obtain ⟨p, hp, rfl⟩ := h; exact (rd_a (rd_a hp).2.2.1).1
/-- a token in the class's words, and in the model's -/
def cT (k : Nat) : Nat := if k < 20 ∨ k = 24 then 1 else if k = 20 then 2 else if k = 21 then 3 else if k = 22 then 0 else 4
def mT (k : Nat) : Nat := if k = 24 then 23 else k
theorem cT_w (t : TF) (b m : Nat) : cT (wI t b m) = 1 := by
  unfold cT
  rcases wI_c t b m with h | h
  · rw [if_pos (Or.inl (by omega))]
  · rw [if_pos (Or.inr h)]
/-! the items -/
def nOk (r : RT) (lo hi : Nat) : Bool := decide (rK r = 20 ∧ lo ≤ rV r ∧ rV r ≤ hi)
theorem nOk_t {r : RT} {lo hi : Nat} (h : nOk r lo hi = true) : rK r = 20 ∧ lo ≤ rV r ∧ rV r ≤ hi := of_decide_eq_true h
theorem nOk_f {r : RT} {lo hi : Nat} (h : nOk r lo hi = false) : ¬ (rK r = 20 ∧ lo ≤ rV r ∧ rV r ≤ hi) := of_decide_eq_false h
/-- perhaps a word and a number: is it right, the number, the token behind -/
def opR (t : TF) (n : Nat) (r : RT) (w lo hi so : Nat) : Bool × Nat × RT := if rK r = w then (if nOk (nx t n r) lo hi then (true, rV (nx t n r), nx t n (nx t n r)) else (false, so, nx t n r)) else (true, so, r)
abbrev IT : Type := Bool × RT × Nu
def pIt2 (t : TF) (n : Nat) (r : RT) (σ : Nu) (k d ln : Int32) (q : Bool × Nat × RT) : IT := if q.1 then (true, q.2.2, addF σ k ln d (nI q.2.1)) else (false, q.2.2, σ)
def pIt1 (t : TF) (n : Nat) (r : RT) (σ : Nu) (k d : Int32) (q : Bool × Nat × RT) : IT := if q.1 then pIt2 t n r σ k d (nI q.2.1) (opR t n q.2.2 7 0 99 0) else (false, q.2.2, σ)
def pIt (t : TF) (n : Nat) (r : RT) (σ : Nu) (k : Int32) : IT := if szN σ = 8 then (false, r, σ) else if nOk (nx t n r) 0 9999 then pIt1 t n r σ k (nI (rV (nx t n r))) (opR t n (nx t n (nx t n r)) 6 1 99 10) else (false, nx t n r, σ)
def dIt (t : TF) (n : Nat) (r : RT) (σ : Nu) (h : Int32) : IT := if nOk (nx t n r) 0 6 then (true, nx t n (nx t n r), up2 σ 1 (rV (nx t n r)) h) else (false, nx t n r, σ)
def wIt (t : TF) (n : Nat) (r : RT) (σ : Nu) : IT := if nOk (nx t n r) 0 99 then (true, nx t n (nx t n r), up2 σ 0 1 (nI (rV (nx t n r)))) else (false, nx t n r, σ)
def iIt (t : TF) (n : Nat) (r : RT) (σ : Nu) : IT := if rK r ≤ 5 then pIt t n r σ (nI (rK r)) else if rK r = 8 then dIt t n r σ 1 else if rK r = 9 then dIt t n r σ 0 else if rK r = 10 then wIt t n r σ else (false, r, σ)
/-- the text from its i-th item on: the answer, and what there is then -/
def txT (t : TF) (n : Nat) (σ0 : Nu) : Nat → Nat → RT → Nu → Int32 × Nu
  | 0, i, r, σ => if (iIt t n r σ).1 = true ∧ rK (iIt t n r σ).2.1 = 22 then (nI i, (iIt t n r σ).2.2) else (-1 - nI (rB (iIt t n r σ).2.1), σ0)
  | f + 1, i, r, σ => if (iIt t n r σ).1 = true ∧ rK (iIt t n r σ).2.1 = 22 then (nI i, (iIt t n r σ).2.2) else if (iIt t n r σ).1 = true ∧ rK (iIt t n r σ).2.1 = 21 then txT t n σ0 f (i + 1) (nx t n (iIt t n r σ).2.1) (iIt t n r σ).2.2 else (-1 - nI (rB (iIt t n r σ).2.1), σ0)
def tx0 (t : TF) (n : Nat) (σ : Nu) : Int32 × Nu := txT t n σ 119 1 (rdT t n 0) σ
def sp_nursery (S : St) : RS := ((tx0 (sT S) (sL S) (sN S)).1, stT (stN S (tx0 (sT S) (sL S) (sN S)).2) (sT S) 0)
/-- the bytes of a number behind the tape -/
def fdT (t : TF) (L : Nat) (b : Int32) (n : Nat) : Nat → TF | 0 => t | j + 1 => upd (fdT t L b n j) (L + j) ((b >>> (nI (8 * (n - 1 - j)) &&& 31)) &&& 255)
def sp_feed (b n : Int32) (S : St) : RS := if inI n 1 4 then (if 120 < nI (sL S) + n then bad S 1 else (nI (sL S + pN n), stT S (fdT (sT S) (sL S) b (pN n) (pN n)) (sL S + pN n))) else bad S 0
