/-! lemmas for the sheets' calls: the model's row of 160, spans, books -/
def cm (C : Nat → Nat → Int64) : Nat → Int64 := fun j => C (j / 40) (j % 40)
def zN (z : Nat → Nat) : Nat → Int32 := fun j => nI (z j)
theorem cm_at (C : Nat → Nat → Int64) (k : Nat) {i : Nat} (h : i < 40) : cm C (40 * k + i) = C k i := by
  unfold cm
  rw [show (40 * k + i) / 40 = k from by omega, show (40 * k + i) % 40 = i from by omega]
theorem cm_up (C : Nat → Nat → Int64) (k : Nat) {i : Nat} (v : Int64) (h : i < 40) : vp_updL (cm C) (40 * k + i) v = cm (uA C k (vp_updL (C k) i v)) := by
  funext j
  unfold vp_updL cm uA
  by_cases e : j = 40 * k + i
  · have e1 : j / 40 = k := by omega
    have e2 : j % 40 = i := by omega
    rw [if_pos e]
    simp [e1, e2]
  · by_cases e2 : j / 40 = k
    · have e3 : ¬ j % 40 = i := by omega
      simp [e, e2, e3]
    · simp [e, e2]
theorem cm_cg (C : Nat → Nat → Int64) (k : Nat) {f g : Nat → Int64} (h : ∀ i, i < 40 → f i = g i) : cm (uA C k f) = cm (uA C k g) := by
  funext j
  unfold cm uA
  by_cases e : j / 40 = k
  · simp only [e, if_true]
    exact h _ (Nat.mod_lt _ (by decide))
  · simp [e]
theorem zN_u (z : Nat → Nat) (k n : Nat) : upd (zN z) k (nI n) = zN (uA z k n) := by
  funext j
  unfold upd zN uA
  by_cases e : j = k <;> simp [e]
theorem uA_u {α : Type} (f : Nat → α) (k : Nat) (v w : α) : uA (uA f k v) k w = uA f k w := by
  funext j
  unfold uA
  by_cases e : j = k <;> simp [e]
theorem uA_id {α : Type} (f : Nat → α) (k : Nat) : uA f k (f k) = f := by
  funext j
  unfold uA
  by_cases e : j = k <;> simp [e]
theorem uA_n {α : Type} (f : Nat → α) {k j : Nat} (v : α) (h : j ≠ k) : uA f k v j = f j := if_neg h
theorem sh_zr (C : Nat → Nat → Int64) (k j : Nat) : uA (uA C k (zrF (C k) j)) k (vp_updL ((uA C k (zrF (C k) j)) k) j 0) = uA C k (zrF (C k) (j + 1)) := by
  rw [uA_u, uA_s, zrF_s]
theorem sh_z0 (C : Nat → Nat → Int64) (k : Nat) : C = uA C k (zrF (C k) 0) := by rw [zrF_0, uA_id]
theorem mnI_n {a b : Nat} (ha : a < 1000) (hb : b < 1000) : mnI (nI a) (nI b) = nI (min a b) := by
  unfold mnI
  by_cases h : b < a
  · rw [if_pos (nI_lt h (by omega)), show min a b = b from by omega]
  · rw [if_neg (nI_nlt (by omega) (by omega)), show min a b = a from by omega]
/-! why a sheet has no numbers -/
theorem thF_f {b : Nat → Int32} {s : Int32} (h : inI s 0 3 = false) : thF b s = -1000000001 := by
  unfold thF; rw [if_neg (by rw [h]; decide)]; rfl
theorem thF_0 {b : Nat → Int32} {k : Nat} (hk : k < 4) (h : decide (b k = 0) = true) : thF b (nI k) = -1000000006 := by
  have e : pN (nI k) = k := nI_clamp (by omega)
  unfold thF; rw [if_pos (s_in hk), e, if_pos (of_decide_eq_true h)]; rfl
theorem thF_1 {b : Nat → Int32} {k : Nat} (hk : k < 4) (h : decide (b k = 0) = false) : thF b (nI k) = 0 := by
  have e : pN (nI k) = k := nI_clamp (by omega)
  unfold thF; rw [if_pos (s_in hk), e, if_neg (of_decide_eq_false h)]
theorem mx_n2 {n : Int32} (h0 : 0 ≤ n) (h1 : n ≤ 40) : ∃ m : Nat, m ≤ 40 ∧ n = nI m := in_k (M := 40) (m := 40) rfl (decide_eq_true ⟨h0, h1⟩)
/-! dues -/
theorem inL_lo {v : Int64} {hi : Int32} (h : lg_cmp v 0 < 0) : inL v 0 hi = false := decide_eq_false (fun q => absurd ((lg_cmp_lt _ _).mp h) (Int64.not_lt.mpr q.1))
theorem inL_hi {v : Int64} (h : 0 < lg_cmp v 9999) : inL v 0 9999 = false := decide_eq_false (fun q => absurd ((lg_cmp_gt _ _).mp h) (Int64.not_lt.mpr q.2))
theorem inL_in {v : Int64} (h : ¬ lg_cmp v 0 < 0) (h2 : ¬ 0 < lg_cmp v 9999) : inL v 0 9999 = true := decide_eq_true ⟨Int64.not_lt.mp (fun q => h ((lg_cmp_lt _ _).mpr q)), Int64.not_lt.mp (fun q => h2 ((lg_cmp_gt _ _).mpr q))⟩
theorem layF_t {c : Nat → Int64} {σ : Nu} {k : Nat} (h : inL (c k) 0 9999 = true) : layF c σ (k + 1) = ((layF c σ k).1 + 1, up2 (layF c σ k).2 5 k (c k).toInt32) := if_pos h
theorem layF_f {c : Nat → Int64} {σ : Nu} {k : Nat} (h : inL (c k) 0 9999 = false) : layF c σ (k + 1) = layF c σ k := if_neg (by rw [h]; decide)
/-- the numbers of parts and days stay -/
theorem layF_sz (c : Nat → Int64) (σ : Nu) (k : Nat) : (layF c σ k).2 0 = σ 0 := by
  induction k with
  | zero => rfl
  | succ k ih =>
    cases h : inL (c k) 0 9999 with
    | true => rw [layF_t h]; exact ih
    | false => rw [layF_f h]; exact ih
/-! books -/
theorem isBk_n {c : Nat → Int64} {p : Nat} {σ : Nu} {j : Nat} (h : ¬ c j = (daysF σ j 4 p).toInt64) : ∀ z, j < z → isBk c p σ z = false
  | 0, hj => absurd hj (Nat.not_lt_zero _)
  | z + 1, hj => by
    by_cases e : j = z
    · subst e; simp [isBk, h]
    · simp [isBk, isBk_n h z (by omega)]
theorem isBk_s {c : Nat → Int64} {p : Nat} {σ : Nu} {j : Nat} (h : isBk c p σ j = true) (e : c j = (daysF σ j 4 p).toInt64) : isBk c p σ (j + 1) = true := by simp [isBk, h, e]
theorem readN_t {c : Nat → Int64} {p z : Nat} {σ : Nu} {a w : Nat} (hw : w < 100) (h : isBk c p (up2 (up2 σ 2 p (nI a)) 0 1 (nI w)) z = true) : readN c p z σ (100 * a + (w + 1)) = readN c p z σ (100 * a + w) + 1 := by
  rw [show 100 * a + (w + 1) = 100 * a + w + 1 from by omega, readN, show (100 * a + w) / 100 = a from by omega, show (100 * a + w) % 100 = w from by omega, if_pos h]
theorem readN_f {c : Nat → Int64} {p z : Nat} {σ : Nu} {a w : Nat} (hw : w < 100) (h : isBk c p (up2 (up2 σ 2 p (nI a)) 0 1 (nI w)) z = false) : readN c p z σ (100 * a + (w + 1)) = readN c p z σ (100 * a + w) := by
  rw [show 100 * a + (w + 1) = 100 * a + w + 1 from by omega, readN, show (100 * a + w) / 100 = a from by omega, show (100 * a + w) % 100 = w from by omega, if_neg (by rw [h]; decide)]
  rfl
/-! spans -/
theorem span_in {z : Nat} {a n : Int32} (hz : z ≤ 40) (h : spanB (nI z) a n = true) : ∃ a' n' : Nat, a = nI a' ∧ n = nI n' ∧ a' + n' ≤ z := by
  obtain ⟨h1, h2, h3, h4⟩ := of_decide_eq_true h
  obtain ⟨n', hn, rfl⟩ := in_k (p := n) (M := nI z) (m := z) (nI_toInt (by omega)) (decide_eq_true ⟨h2, h3⟩)
  rw [pk_sub hn] at h4
  obtain ⟨a', ha, rfl⟩ := in_k (p := a) (M := nI (z - n')) (m := z - n') (nI_toInt (by omega)) (decide_eq_true ⟨h1, h4⟩)
  exact ⟨a', n', rfl, rfl, by omega⟩
theorem span_nat {z1 z2 : Nat} {a b n : Int32} (h1 : z1 ≤ 40) (h2 : z2 ≤ 40) (h : spanB (nI z1) a n = true) (g : spanB (nI z2) b n = true) : ∃ a' b' n' : Nat, a = nI a' ∧ b = nI b' ∧ n = nI n' ∧ a' + n' ≤ z1 ∧ b' + n' ≤ z2 := by
  obtain ⟨a', n', e1, e2, e3⟩ := span_in h1 h
  obtain ⟨b', m', e4, e5, e6⟩ := span_in h2 g
  have e : n' = m' := (nI_eq (by omega) (by omega)).mp (e2.symm.trans e5)
  subst e
  exact ⟨a', b', n', e1, e4, e2, e3, e6⟩
theorem span_o {z : Nat} (hz : z ≤ 40) {a n : Int32} (hn : ¬ n < 0) (ha : ¬ a < 0) : (nI z - a < n) ↔ ¬ spanB (nI z) a n = true := by
  have f1 : 0 ≤ a := Int32.not_lt.mp ha
  have f2 : 0 ≤ n := Int32.not_lt.mp hn
  have r1 := fb_rng a
  have r2 := fb_rng n
  have t1 : (nI z - a).toInt = (z : Int) - a.toInt := by
    rw [fb_subI (by rw [nI_toInt (by omega)]; rw [fa_le, ti_0] at f1; omega) (by rw [nI_toInt (by omega)]; rw [fa_le, ti_0] at f1; omega), nI_toInt (by omega)]
  have t2 : (nI z - n).toInt = (z : Int) - n.toInt := by
    rw [fb_subI (by rw [nI_toInt (by omega)]; rw [fa_le, ti_0] at f2; omega) (by rw [nI_toInt (by omega)]; rw [fa_le, ti_0] at f2; omega), nI_toInt (by omega)]
  have e : spanB (nI z) a n = true ↔ (0 ≤ a ∧ 0 ≤ n ∧ n ≤ nI z ∧ a ≤ nI z - n) := decide_eq_true_iff
  rw [e, fa_lt, t1, fa_le, fa_le, fa_le, fa_le, t2, nI_toInt (by omega), ti_0]
  rw [fa_le, ti_0] at f1 f2
  omega
theorem span_n {z : Int32} {a n : Int32} (h : n < 0 ∨ a < 0) : spanB z a n = false := decide_eq_false (fun q => by
  rcases h with h | h
  · exact absurd q.2.1 (Int32.not_le.mpr h)
  · exact absurd q.1 (Int32.not_le.mpr h))
/-- why numbers can't be copied, in the model's order -/
def ncF (bs bt : Int32) (zs zt : Nat) (a b n : Int32) : Int32 := if bs = 0 then -1000000006 else if bt = 0 then -1000000006 else if bs = bt then (if n < 0 then -1000000001 else if a < 0 then -1000000001 else if b < 0 then -1000000001 else if nI zs - a < n then -1000000001 else if nI zt - b < n then -1000000001 else 0) else -1000000003
theorem nc_5 {bs bt : Int32} {zs zt : Nat} {a b n : Int32} (h : decide (bs = 0 ∨ bt = 0) = true) : ncF bs bt zs zt a b n = -1000000006 := by
  unfold ncF
  rcases of_decide_eq_true h with h | h
  · rw [if_pos h]
  · by_cases g : bs = 0
    · rw [if_pos g]
    · rw [if_neg g, if_pos h]
theorem nc_2 {bs bt : Int32} {zs zt : Nat} {a b n : Int32} (h : decide (bs = 0 ∨ bt = 0) = false) (g : decide (bs = bt) = false) : ncF bs bt zs zt a b n = -1000000003 := by
  have h := of_decide_eq_false h
  unfold ncF
  rw [if_neg (fun q => h (Or.inl q)), if_neg (fun q => h (Or.inr q)), if_neg (of_decide_eq_false g)]
theorem nc_s {bs bt : Int32} {zs zt : Nat} {a b n : Int32} (z1 : zs ≤ 40) (z2 : zt ≤ 40) (h : decide (bs = 0 ∨ bt = 0) = false) (g : decide (bs = bt) = true) : ncF bs bt zs zt a b n = if (spanB (nI zs) a n && spanB (nI zt) b n) = true then 0 else -1000000001 := by
  have h := of_decide_eq_false h
  unfold ncF
  rw [if_neg (fun q => h (Or.inl q)), if_neg (fun q => h (Or.inr q)), if_pos (of_decide_eq_true g)]
  by_cases q1 : n < 0
  · rw [if_pos q1, span_n (Or.inl q1)]; rfl
  · rw [if_neg q1]
    by_cases q2 : a < 0
    · rw [if_pos q2, span_n (Or.inr q2)]; rfl
    · rw [if_neg q2]
      by_cases q3 : b < 0
      · rw [if_pos q3, span_n (z := nI zt) (Or.inr q3), Bool.and_false]; rfl
      · rw [if_neg q3]
        by_cases q4 : nI zs - a < n
        · have := (span_o z1 q1 q2).mp q4
          rw [if_pos q4, Bool.eq_false_iff.mpr this]; rfl
        · have e4 : spanB (nI zs) a n = true := by
            cases hb : spanB (nI zs) a n with
            | true => rfl
            | false => exact absurd ((span_o z1 q1 q2).mpr (by rw [hb]; decide)) q4
          rw [if_neg q4, e4, Bool.true_and]
          by_cases q5 : nI zt - b < n
          · have := (span_o z2 q1 q3).mp q5
            rw [if_pos q5, Bool.eq_false_iff.mpr this]; rfl
          · have e5 : spanB (nI zt) b n = true := by
              cases hb : spanB (nI zt) b n with
              | true => rfl
              | false => exact absurd ((span_o z2 q1 q3).mpr (by rw [hb]; decide)) q5
            rw [if_neg q5, e5]; rfl
theorem nc_0 {bs bt : Int32} {zs zt : Nat} {a b n : Int32} (z1 : zs ≤ 40) (z2 : zt ≤ 40) (h : decide (bs = 0 ∨ bt = 0) = false) (g : decide (bs = bt) = true) (q : (spanB (nI zs) a n && spanB (nI zt) b n) = false) : ncF bs bt zs zt a b n = -1000000001 := by
  rw [nc_s z1 z2 h g, q]; rfl
theorem nc_1 {bs bt : Int32} {zs zt : Nat} {a b n : Int32} (z1 : zs ≤ 40) (z2 : zt ≤ 40) (h : decide (bs = 0 ∨ bt = 0) = false) (g : decide (bs = bt) = true) (q : (spanB (nI zs) a n && spanB (nI zt) b n) = true) : ncF bs bt zs zt a b n = 0 := by
  rw [nc_s z1 z2 h g, q]; rfl
/-- how far the model's copy is: from the back where it goes up -/
def mvF (f g : Nat → Int64) (a b n j : Nat) : Nat → Int64 := if a < b then va_cpy f g (a + (n - j)) (b + (n - j)) j else va_cpy f g a b j
theorem mv_0 (f g : Nat → Int64) (a b n : Nat) : mvF f g a b n 0 = g := by
  unfold mvF
  split
  · funext k
    unfold va_cpy
    rw [if_neg (by omega)]
  · funext k
    unfold va_cpy
    rw [if_neg (by omega)]
theorem mv_n (f g : Nat → Int64) (a b n : Nat) : mvF f g a b n n = va_cpy f g a b n := by
  unfold mvF
  rw [Nat.sub_self]
  split <;> rfl
/-- the place at hand -/
def mvI (a b n j : Nat) : Nat := if a < b then n - 1 - j else j
theorem mv_rd (C : Nat → Nat → Int64) (s t a b n : Nat) {j : Nat} (h : j < n) : (uA C t (mvF (C s) (C t) a b n j)) s (a + mvI a b n j) = C s (a + mvI a b n j) := by
  unfold uA
  by_cases e : s = t
  · subst e
    rw [if_pos rfl]
    unfold mvF mvI
    by_cases q : a < b
    · rw [if_pos q, if_pos q]
      unfold va_cpy
      rw [if_neg (by omega)]
    · rw [if_neg q, if_neg q]
      unfold va_cpy
      by_cases q2 : a = b
      · subst q2
        rw [if_neg (by omega)]
      · rw [if_neg (by omega)]
  · rw [if_neg e]
theorem mv_s (C : Nat → Nat → Int64) (s t a b n : Nat) {j : Nat} (h : j < n) : uA (uA C t (mvF (C s) (C t) a b n j)) t (vp_updL ((uA C t (mvF (C s) (C t) a b n j)) t) (b + mvI a b n j) ((uA C t (mvF (C s) (C t) a b n j)) s (a + mvI a b n j))) = uA C t (mvF (C s) (C t) a b n (j + 1)) := by
  rw [mv_rd C s t a b n h, uA_u, uA_s]
  congr 1
  funext k
  unfold vp_updL mvF mvI
  by_cases q : a < b
  · simp only [if_pos q]
    unfold va_cpy
    by_cases e : k = b + (n - 1 - j)
    · rw [if_pos e, if_pos (by omega)]
      congr 1
      omega
    · rw [if_neg e]
      by_cases e2 : b + (n - j) ≤ k ∧ k < b + (n - j) + j
      · rw [if_pos e2, if_pos (by omega)]
        congr 1
        omega
      · rw [if_neg e2, if_neg (by omega)]
  · simp only [if_neg q]
    unfold va_cpy
    by_cases e : k = b + j
    · rw [if_pos e, if_pos (by omega)]
      congr 1
      omega
    · rw [if_neg e]
      by_cases e2 : b ≤ k ∧ k < b + j
      · rw [if_pos e2, if_pos (by omega)]
      · rw [if_neg e2, if_neg (by omega)]
theorem mvI_t {a b n j : Nat} (h : a < b) : n - 1 - j = mvI a b n j := (if_pos h).symm
theorem mvI_f {a b n j : Nat} (h : ¬ a < b) : j = mvI a b n j := (if_neg h).symm
theorem bk_s (C : Nat → Nat → Int64) (b : Int32) (σ : Nu) (k j : Nat) : uA (uA C k (bookF b (C k) σ j)) k (vp_updL ((uA C k (bookF b (C k) σ j)) k) j (cutF b (oI (loud (daysF σ j))).toInt64)) = uA C k (bookF b (C k) σ (j + 1)) := by
  rw [uA_u, uA_s]; rfl
theorem isBk_m {c : Nat → Int64} {p : Nat} {σ : Nu} {j : Nat} (h : isBk c p σ j = false) : ∀ z, j ≤ z → isBk c p σ z = false
  | 0, hj => by have e : j = 0 := by omega
                subst e; exact h
  | z + 1, hj => by
    by_cases e : j = z + 1
    · subst e; exact h
    · simp [isBk, isBk_m h z (by omega)]
theorem ib_f {c : Nat → Int64} {p : Nat} {σ : Nu} {j : Nat} (h : ¬ c j = (daysF σ j 4 p).toInt64) : isBk c p σ (j + 1) = false := isBk_n h (j + 1) (by omega)
