/-! The calls that search: what they answer, on both sides. -/
theorem i_m1 (v : Int32) : v + (-1) = v - 1 := by rw [Int32.sub_eq_add_neg]
theorem nI_s1 (k : Nat) : nI (k + 1) - 1 = nI k := by
  show nI (k + 1) - nI 1 = nI k
  rw [pk_sub (by omega), Nat.add_sub_cancel]
def orB (S : St) (v : Int32) : RS := if v < 0 then bad S 3 else (v, S)
theorem orB_eq (S : St) (v : Int32) : orB S v = (oN v, stF S (oF v (sF S))) := by
  unfold orB oN oF
  by_cases q : v < 0
  · rw [if_pos q, if_pos q, if_pos q]; rfl
  · rw [if_neg q, if_neg q, if_neg q]; rfl
theorem orB_t {S : St} {v : Int32} (h : v < 0) : orB S v = bad S 3 := if_pos h
theorem orB_f {S : St} {v : Int32} (h : ¬ v < 0) : orB S v = (v, S) := if_neg h
theorem orB_T {S : St} {v : Int32} (h : 0 ≤ v) : orB S v = (v, S) := if_neg (Int32.not_lt.mpr h)
theorem orB_F {S : St} {v : Int32} (h : ¬ 0 ≤ v) : orB S v = bad S 3 := if_pos (Int32.not_le.mp h)
theorem inv_up6 {σ : Nu} (h : Inv σ) (p : Nat) {v : Int32} (hv : 0 ≤ v.toInt ∧ v.toInt ≤ 99) : Inv (up2 σ 6 p v) :=
  h.keep rfl rfl h.2.2.1 h.2.2.2.1 h.2.2.2.2.1 (fun q => by rw [up2_g]; split; exact hv; exact h.2.2.2.2.2 q)
theorem inv_upx {σ : Nu} (h : Inv σ) (a p : Nat) (v : Int32) (ha : a = 1 ∨ a = 2 ∨ a = 3 ∨ a = 5) : Inv (up2 σ a p v) := by
  refine h.keep ?_ ?_ ?_ ?_ ?_ ?_
  · rw [up2_g, if_neg (by omega)]
  · rw [up2_g, if_neg (by omega)]
  · rw [up2_g, if_neg (by omega)]; exact h.2.2.1
  · rw [up2_g, if_neg (by omega)]; exact h.2.2.2.1
  · intro q; rw [up2_g, if_neg (by omega)]; exact h.2.2.2.2.1 q
  · intro q; rw [up2_g, if_neg (by omega)]; exact h.2.2.2.2.2 q
theorem inv_upw {σ : Nu} (h : Inv σ) {v : Int32} (hv : 0 ≤ v.toInt ∧ v.toInt ≤ 99) : Inv (up2 σ 0 1 v) :=
  h.keep rfl rfl (by rw [up2_s]; exact hv) h.2.2.2.1 h.2.2.2.2.1 h.2.2.2.2.2
theorem nI_99 {k : Nat} (h : k ≤ 99) : 0 ≤ (nI k).toInt ∧ (nI k).toInt ≤ 99 := by rw [nI_toInt (by omega)]; omega
/-- the least of numbers, below a start -/
def bstI (f : Nat → Int32) (z : Int32) : Nat → Int32 × Int32 | 0 => (z, -1) | k + 1 => if f k < (bstI f z k).1 then (f k, nI k) else bstI f z k
theorem bstI_t {f : Nat → Int32} {z : Int32} {k : Nat} (h : ¬ (bstI f z k).1 ≤ f k) : bstI f z (k + 1) = (f k, nI k) := by rw [bstI, if_pos (Int32.not_le.mp h)]
theorem bstI_f {f : Nat → Int32} {z : Int32} {k : Nat} (h : (bstI f z k).1 ≤ f k) : bstI f z (k + 1) = bstI f z k := by rw [bstI, if_neg (Int32.not_lt.mpr h)]
def lateF (m : Nat) (σ : Nu) (n : Int32) (i : Nat) : Int32 := daysF (up2 σ 6 i n) m 0 2
def sp_laterM (m : Nat) (n : Int32) (S : St) : RS := if inI n 1 60 then orB S (bstI (lateF m (sN S) n) (daysF (sN S) m 0 2) (szN (sN S))).2 else bad S 0
def sp_later (n : Int32) (S : St) : RS := sp_laterM 200 n S
/-- the soonest of days -/
def bst (c : Nat → Bool) (t : Nat → Nat) (z : Nat) : Nat → Nat × Int32 | 0 => (z, -1) | k + 1 => if c k = true ∧ t k < (bst c t z k).1 then (t k, nI k) else bst c t z k
theorem bst_le {c : Nat → Bool} {t : Nat → Nat} {z m : Nat} (hz : z ≤ m) (ht : ∀ i, t i ≤ m) : ∀ k, (bst c t z k).1 ≤ m
  | 0 => hz
  | k + 1 => by rw [bst]; split; exact ht k; exact bst_le hz ht k
theorem tR_lt {m t l : Nat} (hm : m < 1000) (ht : t ≤ m + 1) (hl : l ≤ m + 1) : tR m t < tR m l ↔ t < l := by
  have e : (100000 : Int32) = nI 100000 := rfl
  unfold tR
  by_cases h1 : t ≤ m
  · rw [if_pos h1]
    by_cases h2 : l ≤ m
    · rw [if_pos h2, nI_ltI (by omega) (by omega)]
    · rw [if_neg h2, e, nI_ltI (by omega) (by omega)]; omega
  · rw [if_neg h1]
    by_cases h2 : l ≤ m
    · rw [if_pos h2, e, nI_ltI (by omega) (by omega)]; omega
    · rw [if_neg h2, e, nI_ltI (by omega) (by omega)]; omega
theorem bst_take {c : Nat → Bool} {t : Nat → Nat} {z m k : Nat} (hm : m < 1000) (hz : z ≤ m + 1) (ht : ∀ i, t i ≤ m + 1) (hc : c k = true) (h : ¬ tR m (bst c t z k).1 ≤ tR m (t k)) : bst c t z (k + 1) = (t k, nI k) := by
  rw [bst, if_pos ⟨hc, (tR_lt hm (ht k) (bst_le hz ht k)).mp (Int32.not_le.mp h)⟩]
theorem bst_skip {c : Nat → Bool} {t : Nat → Nat} {z m k : Nat} (hm : m < 1000) (hz : z ≤ m + 1) (ht : ∀ i, t i ≤ m + 1) (h : tR m (bst c t z k).1 ≤ tR m (t k)) : bst c t z (k + 1) = bst c t z k := by
  rw [bst, if_neg (fun q => absurd ((tR_lt hm (ht k) (bst_le hz ht k)).mpr q.2) (Int32.not_lt.mpr h))]
theorem bst_no {c : Nat → Bool} {t : Nat → Nat} {z k : Nat} (h : c k = false) : bst c t z (k + 1) = bst c t z k := by
  rw [bst, if_neg (fun q => by rw [h] at q; cases q.1)]
theorem tM_ok {m t : Nat} (h : ¬ tM m t < 0) : tM m t = nI t := by
  unfold tM at h ⊢
  by_cases q : t ≤ m
  · rw [if_pos q]
  · rw [if_neg q] at h; exact absurd (by decide) h
theorem tM_no {m t : Nat} (h : tM m t < 0) (hm : m < 1000) : m < t := by
  unfold tM at h
  by_cases q : t ≤ m
  · rw [if_pos q] at h; exact absurd h (nN_lt (by omega))
  · omega
theorem tM_le {m t : Nat} (h : ¬ tM m t < 0) : t ≤ m := by
  unfold tM at h
  by_cases q : t ≤ m
  · exact q
  · rw [if_neg q] at h; exact absurd (by decide) h
theorem bst_takeM {c : Nat → Bool} {t : Nat → Nat} {z m k : Nat} (hm : m < 1000) (hz : z ≤ m + 1) (ht : ∀ i, t i ≤ m + 1) (hc : c k = true) (h1 : ¬ tM m (t k) < 0) (h : ¬ nI (bst c t z k).1 ≤ tM m (t k)) : bst c t z (k + 1) = (t k, nI k) := by
  rw [tM_ok h1] at h
  have := bst_le (c := c) hz ht k
  have h3 := ht k
  rw [bst, if_pos ⟨hc, by rw [nI_leI (by omega) (by omega)] at h; omega⟩]
theorem bst_skipM {c : Nat → Bool} {t : Nat → Nat} {z m k : Nat} (hm : m < 1000) (hz : z ≤ m + 1) (ht : ∀ i, t i ≤ m + 1) (h1 : ¬ tM m (t k) < 0) (h : nI (bst c t z k).1 ≤ tM m (t k)) : bst c t z (k + 1) = bst c t z k := by
  rw [tM_ok h1] at h
  have := bst_le (c := c) hz ht k
  have h3 := ht k
  rw [nI_leI (by omega) (by omega)] at h
  rw [bst, if_neg (fun q => by omega)]
theorem bst_skipN {c : Nat → Bool} {t : Nat → Nat} {z m k : Nat} (hm : m < 1000) (hz : z ≤ m + 1) (ht : ∀ i, t i ≤ m + 1) (h1 : tM m (t k) < 0) : bst c t z (k + 1) = bst c t z k := by
  have := bst_le (c := c) hz ht k
  have h3 := tM_no h1 hm
  rw [bst, if_neg (fun q => by omega)]
def kindT (σ : Nu) (p i : Nat) : Nat := till (gDone p) 400 (up2 σ 2 p (nI i))
theorem kindT_le (σ : Nu) (p i : Nat) : kindT σ p i ≤ 401 := till_le _ _ _
abbrev bstK (σ : Nu) (p : Nat) : Nat → Nat × Int32 := bst (fun _ => true) (kindT σ p) 401
def sp_kind (p : Int32) (S : St) : RS := if isP S p then orB S (bstK (sN S) (pN p) 6).2 else bad S 0
def holT (σ : Nu) (i : Nat) : Nat := till gAll 400 (up2 σ 1 i 1)
theorem holT_le (σ : Nu) (i : Nat) : holT σ i ≤ 401 := till_le _ _ _
def holC (σ : Nu) (i : Nat) : Bool := decide (σ 1 i = 0)
abbrev bstH (σ : Nu) : Nat → Nat × Int32 := bst (holC σ) (holT σ) (till gAll 400 σ)
def sp_holiday (S : St) : RS := orB S (bstH (sN S) 7).2
/-- the latest of days -/
def bgt (t : Nat → Nat) : Nat → Nat × Int32 | 0 => (0, -1) | k + 1 => if (bgt t k).1 < t k + 1 then (t k + 1, nI k) else bgt t k
def lX (l : Nat) : Int32 := if l = 0 then -1 else tR 400 (l - 1)
def lM (l : Nat) : Int32 := if l = 0 then -1 else nI (l - 1)
theorem bgt_le {t : Nat → Nat} {m : Nat} (ht : ∀ i, t i ≤ m) : ∀ k, (bgt t k).1 ≤ m + 1
  | 0 => Nat.zero_le _
  | k + 1 => by rw [bgt]; split; exact Nat.succ_le_succ (ht k); exact bgt_le ht k
theorem lX_le {l t : Nat} (hl : l ≤ 402) (ht : t ≤ 401) : tR 400 t ≤ lX l ↔ t + 1 ≤ l := by
  unfold lX
  by_cases h : l = 0
  · rw [if_pos h]
    have e : ¬ tR 400 t ≤ -1 := by
      unfold tR; split
      · exact Int32.not_le.mpr (by rw [fa_lt, nI_toInt (by omega), show (-1 : Int32).toInt = -1 from rfl]; omega)
      · decide
    exact ⟨fun q => absurd q e, fun q => by omega⟩
  · rw [if_neg h, ← Int32.not_lt, tR_lt (by omega) (by omega) ht]; omega
theorem bgt_t {t : Nat → Nat} {k : Nat} (ht : ∀ i, t i ≤ 401) (h : ¬ tR 400 (t k) ≤ lX (bgt t k).1) : bgt t (k + 1) = (t k + 1, nI k) := by
  rw [lX_le (bgt_le ht k) (ht k)] at h
  rw [bgt, if_pos (by omega)]
theorem bgt_f {t : Nat → Nat} {k : Nat} (ht : ∀ i, t i ≤ 401) (h : tR 400 (t k) ≤ lX (bgt t k).1) : bgt t (k + 1) = bgt t k := by
  rw [lX_le (bgt_le ht k) (ht k)] at h
  rw [bgt, if_neg (by omega)]
theorem lX_s (t : Nat) : lX (t + 1) = tR 400 t := by rw [lX, if_neg (by omega), Nat.add_sub_cancel]
theorem lM_s (t : Nat) : lM (t + 1) = nI t := by rw [lM, if_neg (by omega), Nat.add_sub_cancel]
theorem lM_le {l t : Nat} (hl : l ≤ 402) (ht : t ≤ 401) : nI t ≤ lM l ↔ t + 1 ≤ l := by
  unfold lM
  by_cases h : l = 0
  · rw [if_pos h]
    have e : ¬ nI t ≤ -1 := Int32.not_le.mpr (by rw [fa_lt, nI_toInt (by omega), show (-1 : Int32).toInt = -1 from rfl]; omega)
    exact ⟨fun q => absurd q e, fun q => by omega⟩
  · rw [if_neg h, nI_leI (by omega) (by omega)]; omega
theorem bgt_tM {t : Nat → Nat} {k : Nat} (ht : ∀ i, t i ≤ 401) (h : ¬ nI (t k) ≤ lM (bgt t k).1) : bgt t (k + 1) = (t k + 1, nI k) := by
  rw [lM_le (bgt_le ht k) (ht k)] at h
  rw [bgt, if_pos (by omega)]
theorem bgt_fM {t : Nat → Nat} {k : Nat} (ht : ∀ i, t i ≤ 401) (h : nI (t k) ≤ lM (bgt t k).1) : bgt t (k + 1) = bgt t k := by
  rw [lM_le (bgt_le ht k) (ht k)] at h
  rw [bgt, if_neg (by omega)]
/-- the model's 401 where it is never -/
theorem tM_401 {t : Nat} (ht : t ≤ 401) (h : tM 400 t < 0) : (401 : Int32) = nI t := by
  have := tM_no h (by omega)
  rw [show t = 401 from by omega]; rfl
def lastT (σ : Nu) (i : Nat) : Nat := till (gDone i) 400 σ
theorem lastT_le (σ : Nu) (i : Nat) : lastT σ i ≤ 401 := till_le _ _ _
def sp_last (S : St) : RS := orB S (bgt (lastT (sN S)) (szN (sN S))).2
/-- the greatest with which it holds -/
def fl (a : Nat) (g : Nat → Bool) : Nat → Int32 | 0 => -1 | k + 1 => if g (k + a) then nI (k + a) else fl a g k
theorem fl_t {a : Nat} {g : Nat → Bool} {k : Nat} (h : g (k + a) = true) : fl a g (k + 1) = nI (k + a) := by rw [fl, if_pos h]
theorem fl_f {a : Nat} {g : Nat → Bool} {k : Nat} (h : g (k + a) = false) : fl a g (k + 1) = fl a g k := by rw [fl, h]; rfl
def FR (a : Nat) (g : Nat → Bool) (N : Nat) (r : Int32) (k : Nat) : Prop := (r = -1 ∧ fl a g N = fl a g k) ∨ (0 ≤ r ∧ fl a g N = r)
theorem fr_start (a : Nat) (g : Nat → Bool) (N : Nat) : FR a g N (-1) N := Or.inl ⟨rfl, rfl⟩
theorem fr_yes {a : Nat} {g : Nat → Bool} {N : Nat} {r : Int32} {k : Nat} (h : FR a g N r (k + 1)) (hr : ¬ 0 ≤ r) (hg : g (k + a) = true) (hk : k + a < 1000000) : FR a g N (nI (k + a)) k := by
  rcases h with ⟨-, h⟩ | ⟨h, -⟩
  · exact Or.inr ⟨nI_pos' (by omega), by rw [h, fl_t hg]⟩
  · exact absurd h hr
theorem fr_no {a : Nat} {g : Nat → Bool} {N : Nat} {r : Int32} {k : Nat} (h : FR a g N r (k + 1)) (hr : ¬ 0 ≤ r) (hg : g (k + a) = false) : FR a g N (-1) k := by
  rcases h with ⟨-, h⟩ | ⟨h, -⟩
  · exact Or.inl ⟨rfl, by rw [h, fl_f hg]⟩
  · exact absurd h hr
theorem fr_end {a : Nat} {g : Nat → Bool} {N : Nat} {r : Int32} (h : FR a g N r 0) : fl a g N = r := by
  rcases h with ⟨h1, h⟩ | ⟨-, h⟩
  · rw [h, h1]; rfl
  · exact h
theorem fr_got {a : Nat} {g : Nat → Bool} {N : Nat} {r : Int32} {k : Nat} (h : FR a g N r k) (hr : 0 ≤ r) : fl a g N = r := by
  rcases h with ⟨h1, -⟩ | ⟨-, h⟩
  · rw [h1] at hr; exact absurd hr (by decide)
  · exact h
theorem undN_day (σ : Nu) : ∀ n, undN (dayF σ) n ≤ undN σ n
  | 0 => Nat.le_refl _
  | n + 1 => by
    rw [undN, undN]
    have ih := undN_day σ n
    cases h : done σ n
    · split <;> simp <;> omega
    · rw [done_day h]; simpa using ih
theorem gAll_day {σ : Nu} (h : gAll σ = true) : gAll (dayF σ) = true := by
  have h1 : undN σ (szN σ) = 0 := of_decide_eq_true h
  have h2 := undN_day σ (szN σ)
  exact decide_eq_true (by rw [dayF_sz]; omega)
theorem gDone_day {p : Nat} {σ : Nu} (h : gDone p σ = true) : gDone p (dayF σ) = true := done_day h
theorem g_days {g : Nu → Bool} (hg : ∀ τ, g τ = true → g (dayF τ) = true) {σ : Nu} (h : g σ = true) : ∀ n, g (daysF σ n) = true
  | 0 => h
  | n + 1 => hg _ (g_days hg h n)
theorem till_mono {g : Nu → Bool} (hg : ∀ τ, g τ = true → g (dayF τ) = true) : ∀ (n : Nat) (σ : Nu), till g n σ ≤ n ↔ g (daysF σ n) = true
  | 0, σ => by
    rw [till]
    cases h : g σ
    · simp [daysF, h]
    · simp [daysF, h]
  | n + 1, σ => by
    cases h : g σ
    · rw [till_no h, ← daysF_1, ← till_mono hg n (dayF σ)]; omega
    · rw [till_yes h]; exact ⟨fun _ => g_days hg h (n + 1), fun _ => Nat.zero_le _⟩
theorem tR_nv {m t : Nat} (hm : m < 1000) : tR m t = 100000 ↔ ¬ t ≤ m :=
  ⟨fun h q => tR_max q hm h, fun h => if_neg h⟩
def bearG (σ : Nu) (n w : Nat) : Bool := gAll (daysF (up2 σ 0 1 (nI w)) n)
def longG (σ : Nu) (p n x : Nat) : Bool := gDone p (daysF (up2 σ 3 p (nI x)) n)
theorem bear_y {σ : Nu} {n w : Nat} (hn : n < 1000) (h : ¬ tR n (till gAll n (up2 σ 0 1 (nI w))) = 100000) : bearG σ n w = true :=
  (till_mono (g := gAll) (fun _ => gAll_day) n _).mp (Classical.not_not.mp (mt (tR_nv hn).mpr h))
theorem bear_n {σ : Nu} {n w : Nat} (hn : n < 1000) (h : tR n (till gAll n (up2 σ 0 1 (nI w))) = 100000) : bearG σ n w = false := by
  cases q : bearG σ n w
  · rfl
  · exact absurd ((till_mono (g := gAll) (fun _ => gAll_day) n _).mpr q) ((tR_nv hn).mp h)
theorem long_y {σ : Nu} {p n x : Nat} (hn : n < 1000) (h : ¬ tR n (till (gDone p) n (up2 σ 3 p (nI x))) = 100000) : longG σ p n x = true :=
  (till_mono (g := gDone p) (fun _ => gDone_day) n _).mp (Classical.not_not.mp (mt (tR_nv hn).mpr h))
theorem long_n {σ : Nu} {p n x : Nat} (hn : n < 1000) (h : tR n (till (gDone p) n (up2 σ 3 p (nI x))) = 100000) : longG σ p n x = false := by
  cases q : longG σ p n x
  · rfl
  · exact absurd ((till_mono (g := gDone p) (fun _ => gDone_day) n _).mpr q) ((tR_nv hn).mp h)
def sp_bears (n : Int32) (S : St) : RS := if inI n 1 200 then orB S (fl 0 (bearG (sN S) (pN n)) 100) else bad S 0
def sp_longest (p : Int32) (S : St) : RS := if isP S p then (if inI (sN S 5 (pN p) - sN S 0 0 + 1) 1 400 then orB S (fl 1 (longG (sN S) (pN p) (pN (sN S 5 (pN p) - sN S 0 0 + 1))) 99) else bad S 4) else bad S 0
/-- the latest of the soonest dues -/
def dueT (σ : Nu) (p i : Nat) : Nat := till (gDone p) 200 (up2 σ 5 p (nI (dyN σ + i)))
theorem dueT_le (σ : Nu) (p i : Nat) : dueT σ p i ≤ 201 := till_le _ _ _
def bdu (t : Nat → Nat) (a : Nat) : Nat → Nat × Int32 | 0 => (201, -1) | k + 1 => if t k ≤ 200 ∧ t k ≤ (bdu t a k).1 then (t k, nI (a + k)) else bdu t a k
def duN (d : Nat) : Nat := min 61 (10000 - d)
def sp_due (p : Int32) (S : St) : RS := if isP S p then orB S (bdu (dueT (sN S) (pN p)) (dyN (sN S)) (duN (dyN (sN S)))).2 else bad S 0
def BQ (t : Nat → Nat) (a lo hi l : Nat) (b : Int32) : Prop := (b = -1 ∧ l = 201 ∧ ∀ e, lo ≤ e → e < hi → 200 < t e) ∨ ∃ i, lo ≤ i ∧ i < hi ∧ b = nI (a + i) ∧ l = t i ∧ t i ≤ 200 ∧ ∀ e, lo ≤ e → e < hi → t i ≤ t e ∧ (i < e → t i < t e)
theorem bq_1 {t : Nat → Nat} {a lo hi l : Nat} {b : Int32} (h : BQ t a lo hi l b) : l ≤ 201 := by
  rcases h with ⟨-, h, -⟩ | ⟨i, -, -, -, h, h2, -⟩ <;> omega
theorem bq_start (t : Nat → Nat) (a n : Nat) : BQ t a n n 201 (-1) := Or.inl ⟨rfl, rfl, fun e h1 h2 => by omega⟩
theorem bq_dt {t : Nat → Nat} {a lo hi l : Nat} {b : Int32} (h : BQ t a (lo + 1) hi l b) (hh : lo < hi) (q : t lo < l) : BQ t a lo hi (t lo) (nI (a + lo)) := by
  have h1 := bq_1 h
  refine Or.inr ⟨lo, Nat.le_refl _, hh, rfl, rfl, by omega, fun e he he2 => ?_⟩
  rcases h with ⟨-, h2, h3⟩ | ⟨i, hi1, hi2, -, h2, h3, h4⟩
  · by_cases e1 : e = lo
    · subst e1; exact ⟨Nat.le_refl _, fun z => absurd z (Nat.lt_irrefl _)⟩
    · have := h3 e (by omega) he2; omega
  · by_cases e1 : e = lo
    · subst e1; exact ⟨Nat.le_refl _, fun z => absurd z (Nat.lt_irrefl _)⟩
    · have := (h4 e (by omega) he2).1; omega
theorem bq_df {t : Nat → Nat} {a lo hi l : Nat} {b : Int32} (h : BQ t a (lo + 1) hi l b) (q : ¬ t lo < l) : BQ t a lo hi l b := by
  rcases h with ⟨h0, h2, h3⟩ | ⟨i, hi1, hi2, h0, h2, h3, h4⟩
  · refine Or.inl ⟨h0, h2, fun e he he2 => ?_⟩
    by_cases e1 : e = lo
    · subst e1; omega
    · exact h3 e (by omega) he2
  · refine Or.inr ⟨i, by omega, hi2, h0, h2, h3, fun e he he2 => ?_⟩
    by_cases e1 : e = lo
    · subst e1; omega
    · exact h4 e (by omega) he2
theorem bq_bdu (t : Nat → Nat) (a : Nat) : ∀ k, BQ t a 0 k (bdu t a k).1 (bdu t a k).2
  | 0 => Or.inl ⟨rfl, rfl, fun e _ h => absurd h (Nat.not_lt_zero _)⟩
  | k + 1 => by
    have ih := bq_bdu t a k
    rw [bdu]
    by_cases q : t k ≤ 200 ∧ t k ≤ (bdu t a k).1
    · rw [if_pos q]
      refine Or.inr ⟨k, Nat.zero_le _, by omega, rfl, rfl, q.1, fun e he he2 => ?_⟩
      by_cases e1 : e = k
      · subst e1; exact ⟨Nat.le_refl _, fun z => absurd z (Nat.lt_irrefl _)⟩
      · rcases ih with ⟨-, h2, h3⟩ | ⟨i, hi1, hi2, -, h2, h3, h4⟩
        · have := h3 e he (by omega); omega
        · have := (h4 e he (by omega)).1; omega
    · rw [if_neg q]
      rcases ih with ⟨h0, h2, h3⟩ | ⟨i, hi1, hi2, h0, h2, h3, h4⟩
      · refine Or.inl ⟨h0, h2, fun e he he2 => ?_⟩
        by_cases e1 : e = k
        · subst e1; omega
        · exact h3 e he (by omega)
      · refine Or.inr ⟨i, hi1, by omega, h0, h2, h3, fun e he he2 => ?_⟩
        by_cases e1 : e = k
        · subst e1; omega
        · exact h4 e he (by omega)
theorem bq_eq {t : Nat → Nat} {a n l l2 : Nat} {b b2 : Int32} (h : BQ t a 0 n l b) (h2 : BQ t a 0 n l2 b2) : b = b2 := by
  rcases h with ⟨h0, -, h3⟩ | ⟨i, hi1, hi2, h0, -, h3, h4⟩
  · rcases h2 with ⟨g0, -, g3⟩ | ⟨j, gi1, gi2, g0, -, g3, g4⟩
    · rw [h0, g0]
    · have := h3 j gi1 gi2; omega
  · rcases h2 with ⟨g0, -, g3⟩ | ⟨j, gi1, gi2, g0, -, g3, g4⟩
    · have := g3 i hi1 hi2; omega
    · have a1 := h4 j gi1 gi2
      have a2 := g4 i hi1 hi2
      have : i = j := by omega
      rw [h0, g0, this]
theorem bdu_tM {t : Nat → Nat} {a k : Nat} (h : ¬ tM 200 (t k) < 0) (h2 : ¬ nI (bdu t a k).1 < tM 200 (t k)) : bdu t a (k + 1) = (t k, nI (a + k)) := by
  have h3 := tM_le h
  have h4 := bq_1 (bq_bdu t a k)
  rw [tM_ok h, nI_ltI (by omega) (by omega)] at h2
  rw [bdu, if_pos ⟨h3, by omega⟩]
theorem bdu_fM {t : Nat → Nat} {a k : Nat} (h : ¬ tM 200 (t k) < 0) (h2 : nI (bdu t a k).1 < tM 200 (t k)) : bdu t a (k + 1) = bdu t a k := by
  have h3 := tM_le h
  have h4 := bq_1 (bq_bdu t a k)
  rw [tM_ok h, nI_ltI (by omega) (by omega)] at h2
  rw [bdu, if_neg (fun q => by omega)]
theorem bdu_nM {t : Nat → Nat} {a k : Nat} (h : tM 200 (t k) < 0) : bdu t a (k + 1) = bdu t a k := by
  have h3 := tM_no h (by omega)
  rw [bdu, if_neg (fun q => by omega)]
theorem bq_dtX {t : Nat → Nat} {a lo hi l : Nat} {b : Int32} (ht : ∀ i, t i ≤ 201) (h : BQ t a (lo + 1) hi l b) (hh : lo < hi) (q : ¬ tR 200 l ≤ tR 200 (t lo)) : BQ t a lo hi (t lo) (nI (a + lo)) :=
  bq_dt h hh ((tR_lt (by omega) (ht lo) (bq_1 h)).mp (Int32.not_le.mp q))
theorem bq_dfX {t : Nat → Nat} {a lo hi l : Nat} {b : Int32} (ht : ∀ i, t i ≤ 201) (h : BQ t a (lo + 1) hi l b) (q : tR 200 l ≤ tR 200 (t lo)) : BQ t a lo hi l b :=
  bq_df h (fun z => absurd ((tR_lt (by omega) (ht lo) (bq_1 h)).mpr z) (Int32.not_lt.mpr q))
theorem due_end {d : Nat} (h : d ≤ 9999) : mnI (nI (d + 60)) 9999 = nI (d + duN d) - 1 := by
  have e : d + duN d = (d + duN d - 1) + 1 := by unfold duN; omega
  rw [e, nI_s1, mnI]
  show (if nI 9999 < nI (d + 60) then nI 9999 else nI (d + 60)) = _
  unfold duN
  by_cases q : 9999 < d + 60
  · rw [if_pos ((nI_ltI (by omega) (by omega)).mpr q), show d + min 61 (10000 - d) - 1 = 9999 from by omega]
  · rw [if_neg (fun z => q ((nI_ltI (by omega) (by omega)).mp z)), show d + min 61 (10000 - d) - 1 = d + 60 from by omega]
