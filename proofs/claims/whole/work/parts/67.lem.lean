/-! lemmas for the readers' walks -/
theorem j_le {G : pG} {K : pK} {cells slots : Nat} {ws : va_W} {lv lv' : List (Nat × Value)} {pc : Nat} {st : List Value} (h : lv = lv') (k : JJ G K cells slots ws lv' pc st) : JJ G K cells slots ws lv pc st := h ▸ k
theorem all_s {P : Nat → Prop} {i : Nat} (h : ∀ j, j < i → P j) (g : P i) : ∀ j, j < i + 1 → P j := fun j hj => by
  by_cases e : j = i
  · subst e; exact g
  · exact h j (by omega)
theorem wI_20 (t : TF) (b m : Nat) : wI t b m ≠ 20 := by rcases wI_c t b m with h | h <;> omega
theorem wI_11 {t : TF} {b m w : Nat} (hw : w ≤ 11) (h : ∀ v, v < w → wEq t b m v = false) (g : w = 11 ∨ wEq t b m w = true) : wI t b m = if w < 11 then w else 24 := by
  by_cases q : w < 11
  · rw [if_pos q]
    have e : wEq t b m w = true := by rcases g with g | g; · omega
                                      · exact g
    rw [wI_eq q] at e
    exact of_decide_eq_true e
  · rw [if_neg q]
    rcases wI_c t b m with c | c
    · have e := h _ (show wI t b m < w from by omega)
      rw [wI_eq c] at e
      exact absurd rfl (of_decide_eq_false e)
    · exact c
theorem bt_dig : ∀ d, d < 10 → bt (nI (48 + d)) = nI (48 + d) := by decide +kernel
theorem dg_sub {t : TF} {k : Nat} (hT : okT t) (h : inI (t k) 48 57 = true) : bt (t k) - 48 = nI (pN (t k) - 48) := by
  obtain ⟨d, h1, h2, h3⟩ := dig_k hT h
  rw [h3, h2, bt_dig d h1]
  exact (pk_sub (a := 48 + d) (b := 48) (by omega)).trans (congrArg nI (by omega))
theorem dg_lt {t : TF} {k : Nat} (hT : okT t) (h : inI (t k) 48 57 = true) : pN (t k) - 48 < 10 := by
  obtain ⟨d, h1, -, h3⟩ := dig_k hT h
  omega
theorem dg_add {t : TF} {k v : Nat} (hT : okT t) (h : inI (t k) 48 57 = true) (hv : v ≤ 9999) : nI (10 * v) + t k - 48 = nI (dgt v (t k)) := by
  obtain ⟨d, h1, h2, h3⟩ := dig_k hT h
  unfold dgt
  rw [if_neg (by omega), h3, h2, nI_add]
  exact (pk_sub (a := 10 * v + (48 + d)) (b := 48) (by omega)).trans (congrArg nI (by omega))
theorem dg_stay {v : Nat} {c : Int32} (h : 9999 < v) : dgt v c = v := if_pos h
theorem mn_dg {v : Nat} {c : Int32} (h : pN c - 48 < 10) : mnI 10000 (nI (10 * (min 10000 v) + (pN c - 48))) = nI (min 10000 (dgt v c)) := by
  rw [dgt_m h]
  unfold mnI
  have e : (10000 : Int32) = nI 10000 := by decide
  rw [e]
  by_cases q : 10 * (min 10000 v) + (pN c - 48) < 10000
  · rw [if_pos (nI_lt q (by omega)), show min 10000 (10 * min 10000 v + (pN c - 48)) = 10 * min 10000 v + (pN c - 48) from by omega]
  · rw [if_neg (nI_nlt (by omega) (by omega)), show min 10000 (10 * min 10000 v + (pN c - 48)) = 10000 from by omega]
theorem ltr_b : ∀ w, w < 11 → ∀ i, i < wLen w → 0 ≤ (ltr w i).toInt ∧ (ltr w i).toInt ≤ 127 := by decide +kernel
theorem cT_1 {k w : Nat} (h : ¬ nI (cT k) = 1) (hw : w < 11) : decide (k = w) = false := decide_eq_false (fun e => h (by subst e; unfold cT; rw [if_pos (Or.inl (by omega))]; rfl))
theorem cT_le (k : Nat) : cT k ≤ 4 := by
  unfold cT
  repeat' split
  all_goals omega
theorem cT_1t {k : Nat} (h : nI (cT k) = 1) : k < 20 ∨ k = 24 := by
  have e : cT k = 1 := (nI_eq (b := 1) (by have := cT_le k; omega) (by omega)).mp h
  unfold cT at e
  by_cases q : k < 20 ∨ k = 24
  · exact q
  · rw [if_neg q] at e
    split at e
    · cases e
    · split at e
      · cases e
      · split at e <;> cases e
theorem cT_2t {k : Nat} (h : nI (cT k) = 2) : k = 20 := by
  have e : cT k = 2 := (nI_eq (b := 2) (by have := cT_le k; omega) (by omega)).mp h
  unfold cT at e
  split at e
  · cases e
  · split at e
    · assumption
    · split at e
      · cases e
      · split at e <;> cases e
theorem cT_3t {k : Nat} (h : nI (cT k) = 3) : k = 21 := by
  have e : cT k = 3 := (nI_eq (b := 3) (by have := cT_le k; omega) (by omega)).mp h
  unfold cT at e
  split at e
  · cases e
  · split at e
    · cases e
    · split at e
      · assumption
      · split at e <;> cases e
theorem cT_0t {k : Nat} (h : nI (cT k) = 0) : k = 22 := by
  have e : cT k = 0 := (nI_eq (b := 0) (by have := cT_le k; omega) (by omega)).mp h
  unfold cT at e
  split at e
  · cases e
  · split at e
    · cases e
    · split at e
      · cases e
      · split at e
        · assumption
        · cases e
/-- a word that isn't at hand -/
theorem ah_no {t : TF} {n : Nat} {r : RT} {w : Nat} (hr : RW t n r) (h1 : nI (cT (rK r)) = 1) (hw : w < 11) (h : wEq t (rB r) (rA r - rB r) w = false) : decide (rK r = w) = false := by
  rw [(hr.wd (cT_1t h1)).1, ← wI_eq hw]; exact h
theorem ah_yes {t : TF} {n : Nat} {r : RT} {w : Nat} (hr : RW t n r) (h1 : nI (cT (rK r)) = 1) (hw : w < 11) (h : wEq t (rB r) (rA r - rB r) w = true) : decide (rK r = w) = true := by
  rw [(hr.wd (cT_1t h1)).1, ← wI_eq hw]; exact h
theorem wEq_n {t : TF} {b m w : Nat} (h : ¬ m = wLen w) : wEq t b m w = false := decide_eq_false (fun q => h q.1)
theorem wEq_l {t : TF} {b m w i : Nat} (hi : i < m) (h : ¬ t (b + i) = ltr w i) : wEq t b m w = false := decide_eq_false (fun q => h (q.2 i hi))
theorem wEq_y {t : TF} {b m w : Nat} (h : m = wLen w) (g : ∀ i, i < m → t (b + i) = ltr w i) : wEq t b m w = true := decide_eq_true ⟨h, g⟩
/-- what the class's number says where none may stand -/
theorem tk_gt {r : RT} {nu : Int32} {lo hi : Nat} (hu : rK r = 20 → nu = nI (min 10000 (rV r))) (hl : hi ≤ 9999) (hl0 : lo ≤ 9999) (hok : nOk r lo hi = false) (h1 : nI (cT (rK r)) = 2) (h2 : ¬ nu < nI lo) : ¬ nu ≤ nI hi := by
  have k := cT_2t h1
  rw [hu k] at h2 ⊢
  intro q
  rw [nI_ltI (by omega) (by omega)] at h2
  have q2 : ¬ nI hi < nI (min 10000 (rV r)) := Int32.not_lt.mpr q
  rw [nI_ltI (by omega) (by omega)] at q2
  exact nOk_f hok ⟨k, by omega, by omega⟩
def kaF (k : Nat) : Int32 := if k ≤ 5 then nI k else -1
theorem fl_neg {b : Nat} (h : b ≤ 120) : (-1 : Int32) - nI b < 0 := by
  rw [fa_lt, fb_subI (by rw [nI_toInt (by omega)]; have : (-1 : Int32).toInt = -1 := by decide
                         omega) (by rw [nI_toInt (by omega)]; have : (-1 : Int32).toInt = -1 := by decide
                                    omega), nI_toInt (by omega), ti_0]
  have : (-1 : Int32).toInt = -1 := by decide
  omega
/-! what an item leaves -/
theorem opR_v {t : TF} {n : Nat} {r : RT} (h : RW t n r) (w lo hi so : Nat) : RW t n (opR t n r w lo hi so).2.2 ∧ rA r ≤ rA (opR t n r w lo hi so).2.2 := by
  have a1 := h.step
  have a2 := h.nxt.ba
  have a3 := h.nxt.step
  have a4 := h.nxt.nxt.ba
  unfold opR
  split
  · split
    · exact ⟨h.nxt.nxt, by show rA r ≤ rA (nx t n (nx t n r)); omega⟩
    · exact ⟨h.nxt, by show rA r ≤ rA (nx t n r); omega⟩
  · exact ⟨h, Nat.le_refl _⟩
theorem opR_so {t : TF} {n : Nat} {r : RT} {w lo hi so : Nat} (h : lo ≤ so ∧ so ≤ hi) : lo ≤ (opR t n r w lo hi so).2.1 ∧ (opR t n r w lo hi so).2.1 ≤ hi := by
  unfold opR
  split
  · split
    · rename_i _ q
      have := nOk_t q
      exact ⟨this.2.1, this.2.2⟩
    · exact h
  · exact h
theorem RW.num {t : TF} {n : Nat} {r : RT} {lo hi : Nat} (h : RW t n r) (g : nOk r lo hi = true) : rB r < rA r := by
  have := (nOk_t g).1
  rcases h.st with q | q
  · omega
  · exact q
/-- an item's end: a token of the tape, and two bytes on at the least -/
theorem iIt_v {t : TF} {n : Nat} {r : RT} {σ : Nu} (h : RW t n r) : RW t n (iIt t n r σ).2.1 ∧ ((iIt t n r σ).1 = true → rK (iIt t n r σ).2.1 ≠ 22 → rA r + 2 ≤ rA (iIt t n r σ).2.1) := by
  have a1 := h.step
  have a2 := h.nxt.ba
  have a3 := h.nxt.step
  have hn2 := h.nxt.nxt.st
  unfold iIt
  split
  · unfold pIt
    split
    · exact ⟨h, fun q => absurd (show false = true from q) (by decide)⟩
    · split
      · rename_i _ g1
        have b1 := h.nxt.num g1
        have o1 := opR_v h.nxt.nxt 6 1 99 10
        unfold pIt1
        split
        · have o2 := opR_v o1.1 7 0 99 0
          unfold pIt2
          split
          · refine ⟨o2.1, fun _ q => ?_⟩
            show rA r + 2 ≤ rA (opR t n (opR t n (nx t n (nx t n r)) 6 1 99 10).2.2 7 0 99 0).2.2
            have st := o2.1.st
            have q' : rK (opR t n (opR t n (nx t n (nx t n r)) 6 1 99 10).2.2 7 0 99 0).2.2 ≠ 22 := q
            rcases st with s | s
            · exact absurd s q'
            · have o3 : rB (nx t n (nx t n r)) < rA (nx t n (nx t n r)) ∨ rA (nx t n r) + 1 ≤ rA (opR t n (opR t n (nx t n (nx t n r)) 6 1 99 10).2.2 7 0 99 0).2.2 := by
                rcases hn2 with e | e
                · right
                  have e1 : opR t n (nx t n (nx t n r)) 6 1 99 10 = (true, 10, nx t n (nx t n r)) := by unfold opR; rw [if_neg (by omega)]
                  rw [e1] at s q' ⊢
                  have e2 : opR t n (nx t n (nx t n r)) 7 0 99 0 = (true, 0, nx t n (nx t n r)) := by unfold opR; rw [if_neg (by omega)]
                  have q2 : rK (opR t n (nx t n (nx t n r)) 7 0 99 0).2.2 ≠ 22 := q'
                  rw [e2] at q2
                  exact absurd e q2
                · exact Or.inl e
              rcases o3 with o3 | o3
              · have := o2.2; have := o1.2; omega
              · omega
          · exact ⟨o2.1, fun q => absurd (show false = true from q) (by decide)⟩
        · exact ⟨o1.1, fun q => absurd (show false = true from q) (by decide)⟩
      · exact ⟨h.nxt, fun q => absurd (show false = true from q) (by decide)⟩
  · have dd : ∀ x : Int32, RW t n (dIt t n r σ x).2.1 ∧ ((dIt t n r σ x).1 = true → rK (dIt t n r σ x).2.1 ≠ 22 → rA r + 2 ≤ rA (dIt t n r σ x).2.1) := by
      intro x
      unfold dIt
      split
      · rename_i g1
        have b1 := h.nxt.num g1
        refine ⟨h.nxt.nxt, fun _ q => ?_⟩
        show rA r + 2 ≤ rA (nx t n (nx t n r))
        rcases hn2 with e | e
        · exact absurd e q
        · omega
      · exact ⟨h.nxt, fun q => absurd (show false = true from q) (by decide)⟩
    split
    · exact dd 1
    · split
      · exact dd 0
      · split
        · unfold wIt
          split
          · rename_i g1
            have b1 := h.nxt.num g1
            refine ⟨h.nxt.nxt, fun _ q => ?_⟩
            show rA r + 2 ≤ rA (nx t n (nx t n r))
            rcases hn2 with e | e
            · exact absurd e q
            · omega
          · exact ⟨h.nxt, fun q => absurd (show false = true from q) (by decide)⟩
        · exact ⟨h, fun q => absurd (show false = true from q) (by decide)⟩
theorem inv_addF {σ : Nu} (h : Inv σ) (hz : szN σ < 8) (k l d : Int32) {p : Nat} (hp : p ≤ 99) : Inv (addF σ k l d (nI p)) := by
  have h8 := h.sz
  refine ⟨⟨szN σ + 1, by omega, ?_⟩, ?_, ?_, ?_, ?_, ?_⟩
  · show nI (szN σ) + 1 = nI (szN σ + 1)
    exact nI_1 _
  · exact h.2.1
  · exact h.2.2.1
  · exact h.2.2.2.1
  · intro q
    show 0 ≤ (upd (σ 4) (szN σ) 0 q).toInt ∧ (upd (σ 4) (szN σ) 0 q).toInt ≤ 9999
    unfold upd
    split
    · exact ⟨by decide, by decide⟩
    · exact h.2.2.2.2.1 q
  · intro q
    show 0 ≤ (upd (σ 6) (szN σ) (nI p) q).toInt ∧ (upd (σ 6) (szN σ) (nI p) q).toInt ≤ 99
    unfold upd
    split
    · exact nI_99 hp
    · exact h.2.2.2.2.2 q
theorem iIt_inv {t : TF} {n : Nat} {r : RT} {σ : Nu} (h : Inv σ) : Inv (iIt t n r σ).2.2 := by
  unfold iIt
  split
  · unfold pIt
    split
    · exact h
    · rename_i hz
      split
      · unfold pIt1
        split
        · unfold pIt2
          split
          · exact inv_addF h (by have := h.sz8; omega) _ _ _ (opR_so (by omega)).2
          · exact h
        · exact h
      · exact h
  · have dd : ∀ x : Int32, Inv (dIt t n r σ x).2.2 := by
      intro x
      unfold dIt
      split
      · exact inv_upx h 1 _ x (by omega)
      · exact h
    split
    · exact dd 1
    · split
      · exact dd 0
      · split
        · unfold wIt
          split
          · rename_i g
            exact inv_upw h (nI_99 (nOk_t g).2.2)
          · exact h
        · exact h
/-! the model's words -/
theorem mT_w {k w : Nat} (h : k = w) (hw : w < 23) : nI (mT k) = nI w := by subst h; exact congrArg nI (if_neg (by omega))
theorem mT_le (k : Nat) (h : k ≤ 10 ∨ 20 ≤ k ∧ k ≤ 24) : mT k ≤ 23 := by unfold mT; split <;> omega
theorem mT_ne {k w : Nat} (h : ¬ k = w) (hw : w < 23) (hk : k ≤ 10 ∨ 20 ≤ k ∧ k ≤ 24) : ¬ nI (mT k) = nI w := by
  intro q
  have e := (nI_eq (by have := mT_le k hk; omega) (by omega)).mp q
  unfold mT at e
  split at e <;> omega
theorem mT_gt {k : Nat} (h : k ≤ 5) : ¬ (5 : Int32) < nI (mT k) := by
  have e : mT k = k := if_neg (by omega)
  rw [e]
  exact nI_nlt (b := k) (a := 5) (by omega) (by omega)
theorem mT_gt' {k : Nat} (h : ¬ k ≤ 5) (hk : k ≤ 10 ∨ 20 ≤ k ∧ k ≤ 24) : (5 : Int32) < nI (mT k) := by
  have e : 6 ≤ mT k := by unfold mT; split <;> omega
  exact nI_lt (a := 5) (by omega) (by have := mT_le k hk; omega)
theorem mT_20 {k : Nat} (h : nI (mT k) = 20) (hk : k ≤ 10 ∨ 20 ≤ k ∧ k ≤ 24) : k = 20 := by
  by_cases e : k = 20
  · exact e
  · exact absurd h (mT_ne (w := 20) e (by omega) hk)
theorem nr_t {v lo hi : Nat} (h1 : lo ≤ v) (h2 : v ≤ hi) (h3 : hi ≤ 9999) : inI (nI v) (nI lo) (nI hi) = true := decide_eq_true ⟨nI_le h1 (by omega), nI_le h2 (by omega)⟩
theorem nr_f {v lo hi : Nat} (h : ¬ (lo ≤ v ∧ v ≤ hi)) (h3 : hi ≤ 9999) (hv : v ≤ 99999) (hl : lo ≤ 9999) : inI (nI v) (nI lo) (nI hi) = false := decide_eq_false (fun q => h (by
  have q1 : ¬ nI v < nI lo := Int32.not_lt.mpr q.1
  have q2 : ¬ nI hi < nI v := Int32.not_lt.mpr q.2
  rw [nI_ltI (by omega) (by omega)] at q1 q2
  omega))
theorem nvf_le {t : TF} {n : Nat} (hT : okT t) : ∀ f v k, v ≤ 99999 → nvf t n f v k ≤ 99999
  | 0, v, k, h => h
  | f + 1, v, k, h => by
    rw [nvf]
    split
    · rename_i g
      exact nvf_le hT f _ (k + 1) (dgt_le (dg_lt hT (isb_1 g).2) h)
    · exact h
theorem RW.vv {t : TF} {n : Nat} {r : RT} (hT : okT t) (h : RW t n r) : rV r ≤ 99999 := by
  obtain ⟨p, hp, rfl⟩ := h
  unfold rdT
  generalize sk t n 32 32 p = b
  unfold rdB
  repeat' split
  · exact Nat.zero_le _
  · exact nvf_le hT _ _ _ (Nat.zero_le _)
  · exact Nat.zero_le _
  · exact Nat.zero_le _
  · exact Nat.zero_le _
/-- what the model's comparison with its row of names says -/
def imN (t : TF) (b m w i : Nat) : Bool := decide (m ≤ 8 ∧ (m = 8 ∨ nmL.getD (8 * w + m) 0 = 0) ∧ ∀ j, j < i → nmL.getD (8 * w + j) 0 = t (b + j))
theorem im_1 {t : TF} {b m w : Nat} (h : m ≤ 8) (g : m = 8 ∨ nmL.getD (8 * w + m) 0 = 0) : (1 : Int32) = bI (imN t b m w 0) := by
  rw [show imN t b m w 0 = true from decide_eq_true ⟨h, g, fun j hj => absurd hj (Nat.not_lt_zero j)⟩]; rfl
theorem im_0g {t : TF} {b m w : Nat} (h : ¬ m ≤ 8) : (0 : Int32) = bI (imN t b m w 0) := by
  rw [show imN t b m w 0 = false from decide_eq_false (fun q => h q.1)]; rfl
theorem im_0n {t : TF} {b m w : Nat} (h : ¬ m = 8) (g : ¬ nmL.getD (8 * w + m) 0 = 0) : (0 : Int32) = bI (imN t b m w 0) := by
  rw [show imN t b m w 0 = false from decide_eq_false (fun q => q.2.1.elim h g)]; rfl
theorem im_s1 {t : TF} {b m w i : Nat} (h : imN t b m w i = true) (g : nmL.getD (8 * w + i) 0 = t (b + i)) : (1 : Int32) = bI (imN t b m w (i + 1)) := by
  obtain ⟨h1, h2, h3⟩ := of_decide_eq_true h
  rw [show imN t b m w (i + 1) = true from decide_eq_true ⟨h1, h2, all_s h3 g⟩]; rfl
theorem im_s0 {t : TF} {b m w i : Nat} (g : ¬ nmL.getD (8 * w + i) 0 = t (b + i)) : (0 : Int32) = bI (imN t b m w (i + 1)) := by
  rw [show imN t b m w (i + 1) = false from decide_eq_false (fun q => g (q.2.2 i (Nat.lt_succ_self i)))]; rfl
theorem im_8 {t : TF} {b m w i : Nat} (h : imN t b m w i = true) : m ≤ 8 := (of_decide_eq_true h).1
theorem im_m {t : TF} {b m w i j : Nat} (h : imN t b m w i = false) (hj : i ≤ j) : imN t b m w j = false := decide_eq_false (fun q => of_decide_eq_false h ⟨q.1, q.2.1, fun k hk => q.2.2 k (by omega)⟩)
theorem nm_l : ∀ w, w < 11 → ∀ k, k < wLen w → nmL.getD (8 * w + k) 0 = ltr w k ∧ ¬ ltr w k = 0 := by decide +kernel
theorem nm_z : ∀ w, w < 11 → wLen w < 8 → nmL.getD (8 * w + wLen w) 0 = 0 := by decide +kernel
theorem im_eq {t : TF} {b m w : Nat} (hw : w < 11) (hL : ∀ j, j < m → inI (t (b + j)) 97 122 = true) : imN t b m w m = wEq t b m w := by
  have h8 := wLen_8 w hw
  have nz : ∀ j, j < m → ¬ t (b + j) = 0 := fun j hj e => by
    have := hL j hj
    rw [e] at this
    exact absurd this (by decide)
  apply decide_eq_decide.mpr
  constructor
  · rintro ⟨h1, h2, h3⟩
    have e : m = wLen w := by
      rcases Nat.lt_trichotomy m (wLen w) with q | q | q
      · rcases h2 with h2 | h2
        · omega
        · rw [(nm_l w hw m q).1] at h2
          exact absurd h2 (nm_l w hw m q).2
      · exact q
      · have := h3 (wLen w) q
        rw [nm_z w hw (by omega)] at this
        exact absurd this.symm (nz _ q)
    exact ⟨e, fun i hi => by rw [← h3 i hi, (nm_l w hw i (by omega)).1]⟩
  · rintro ⟨h1, h2⟩
    refine ⟨by omega, ?_, fun j hj => by rw [h2 j hj, (nm_l w hw j (by omega)).1]⟩
    by_cases q : m = 8
    · exact Or.inl q
    · refine Or.inr ?_
      rw [h1]
      exact nm_z w hw (by omega)
/-! feed -/
theorem sub8 (d : Nat) : nI (8 * (d + 1)) - 8 = nI (8 * d) := (pk_sub (a := 8 * (d + 1)) (b := 8) (by omega)).trans (congrArg nI (by omega))
theorem i_m8 (x : Int32) : x + Int32.ofInt (-8) = x - 8 := by rw [Int32.sub_eq_add_neg]; rfl
theorem bt_255 (x : Int32) : vp_nar .byte x.toInt8.toInt32 = bt (x &&& 255) := by
  show x.toInt8.toInt32.toInt8.toInt32 = (x &&& 255).toInt8.toInt32
  have e : (x &&& 255).toInt8 = x.toInt8 := by
    apply Int8.toBitVec_inj.mp
    rw [Int32.toBitVec_toInt8, Int32.toBitVec_toInt8, Int32.toBitVec_and, BitVec.signExtend_eq_setWidth_of_le _ (by decide), BitVec.signExtend_eq_setWidth_of_le _ (by decide), BitVec.setWidth_and]
    show x.toBitVec.setWidth 8 &&& BitVec.allOnes 8 = _
    rw [BitVec.and_allOnes]
  rw [e, Int8.toInt8_toInt32]
theorem bt_up (t : TF) (L : Nat) {y v : Int32} (h : vp_nar .byte y = bt v) : upd (fun k => bt (t k)) L (vp_nar .byte y) = fun k => bt (upd t L v k) := by
  funext k
  unfold upd
  split
  · exact h
  · rfl
theorem fd_s {t : TF} {L : Nat} {b : Int32} {n d x : Nat} (h : x = d + 1) (hx : x ≤ n) : upd (fdT t L b n (n - x)) (L + (n - x)) ((b >>> (nI (8 * d) &&& 31)) &&& 255) = fdT t L b n (n - d) := by
  rw [show n - d = (n - x) + 1 from by omega, fdT, show n - 1 - (n - x) = d from by omega]
theorem isb_0 {t : TF} {n k : Nat} {lo hi : Int32} (h : k < n) (g : isb t n lo hi k = false) : inI (t k) lo hi = false := by
  cases q : inI (t k) lo hi with
  | false => rfl
  | true => rw [isb_t h q] at g; cases g
theorem isb_1' {t : TF} {n k : Nat} {lo hi : Int32} (h : isb t n lo hi k = true) : inI (t k) lo hi = true := (isb_1 h).2
theorem txT_f {t : TF} {n : Nat} {σ0 : Nu} : ∀ f i r σ, i + f ≤ 200 → (txT t n σ0 f i r σ).1 < 0 → (txT t n σ0 f i r σ).2 = σ0
  | 0, i, r, σ, h, g => by
    rw [txT] at g ⊢
    split at g
    · exact absurd g (nI_pos (by omega))
    · rename_i q
      rw [if_neg q]
  | f + 1, i, r, σ, h, g => by
    rw [txT] at g ⊢
    split at g
    · exact absurd g (nI_pos (by omega))
    · rename_i q
      rw [if_neg q]
      split at g
      · rename_i q2
        rw [if_pos q2]
        exact txT_f f (i + 1) _ _ (by omega) g
      · rename_i q2
        rw [if_neg q2]
theorem tx_f {t : TF} {n : Nat} {σ : Nu} (h : (tx0 t n σ).1 < 0) : (tx0 t n σ).2 = σ := txT_f 119 1 _ _ (by omega) h
