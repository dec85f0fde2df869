/-! The nursery as numbers: row 0 the four numbers (day, weary, late, size), 1 free, 2 kinds, 3 lengths, 4 points, 5 dues, 6 put off; what both classes do to it. -/
abbrev Nu : Type := Nat → Nat → Int32
def up2 (σ : Nu) (a k : Nat) (v : Int32) : Nu := fun x => if x = a then upd (σ a) k v else σ x
def szN (σ : Nu) : Nat := (σ 0 3).toNatClampNeg
def dyN (σ : Nu) : Nat := (σ 0 0).toNatClampNeg
def mx0 (v : Int32) : Int32 := if 0 < v then v else 0
def mnI (m v : Int32) : Int32 := if v < m then v else m
def kNeeds (k n : Int32) : Int32 := if k = 1 then 2 * n else if k = 3 then 1 else if k = 4 then 2 * n + 5 else if k = 5 then n + n / 2 else n
def kGives (k w : Int32) (h : Bool) : Int32 := if k = 1 then mx0 (if h then 4 - w / 30 + 3 else 4 - w / 30) else if k = 2 then mx0 (4 - w / 30 + 1) else if k = 3 then 1 else if k = 4 then mx0 ((if h then 4 - w / 30 + 3 else 4 - w / 30) - 1) else if k = 5 then (if 80 < w then 0 else mx0 (4 - w / 30 + 1)) else mx0 (4 - w / 30)
def kCalls (k n od w : Int32) (oth : Bool) : Int32 := if k = 1 then mx0 (50 + od + n) else if k = 2 then mx0 (50 + od - 5) else if k = 3 then 60 else if k = 4 then (if 50 < w then 0 else mx0 (50 + od + n)) else if k = 5 then (if oth then 1 else mx0 (50 + od - 5)) else mx0 (50 + od)
def kTires (k : Int32) : Int32 := if k = 1 then 10 else if k = 2 then -3 else if k = 3 then 0 else if k = 4 then 10 else if k = 5 then -1 else 6
def needF (σ : Nu) (p : Nat) : Int32 := kNeeds (σ 2 p) (σ 3 p)
def done (σ : Nu) (p : Nat) : Bool := decide (needF σ p ≤ σ 4 p)
def hol (σ : Nu) : Bool := decide (σ 1 (dyN σ % 7) = 1)
def giveF (σ : Nu) (p : Nat) : Int32 := kGives (σ 2 p) (σ 0 1) (hol σ)
/-- how many of the first k aren't done -/
def undN (σ : Nu) : Nat → Nat | 0 => 0 | k + 1 => undN σ k + (if done σ k then 0 else 1)
/-- is one of the first k, another than p, not done? -/
def anoN (σ : Nu) (p : Nat) : Nat → Bool | 0 => false | k + 1 => anoN σ p k || (decide (k ≠ p) && !done σ k)
def callF (σ : Nu) (p : Nat) : Int32 := kCalls (σ 2 p) (σ 3 p) (σ 0 0 - σ 5 p) (σ 0 1) (anoN σ p (szN σ))
/-- how loud a part is heard: not at all if done or put off -/
def hear (σ : Nu) (p : Nat) : Int32 := if done σ p = true ∨ σ 6 p ≠ 0 then 0 else callF σ p
def oI : Option Nat → Int32 | none => -1 | some p => nI p
def loudS (σ : Nu) : Nat → Option Nat × Int32 | 0 => (none, 0) | k + 1 => if (loudS σ k).2 < hear σ k then (some k, hear σ k) else loudS σ k
def loud (σ : Nu) : Option Nat := (loudS σ (szN σ)).1
def setF (σ : Nu) (f : Nat → Bool) : Nat → Int32 | 0 => 0 | k + 1 => if f k then setF σ f k ||| ((1 : Int32) <<< (nI k &&& 31)) else setF σ f k
def behF (σ : Nu) (p : Nat) : Bool := !done σ p && decide (σ 5 p < σ 0 0)
def playF (σ : Nu) (p : Nat) : Nu :=
  let σ1 := up2 (up2 σ 4 p (mnI 9999 (σ 4 p + giveF σ p))) 0 1 (mx0 (mnI 99 (σ 0 1 + kTires (σ 2 p))))
  if done σ1 p = true ∧ σ 5 p < σ 0 0 then up2 σ1 0 2 (mnI 9999 (σ 0 2 + 1)) else σ1
def tireF (σ : Nu) : Nu := match loud σ with
  | some p => playF σ p
  | none => up2 σ 0 1 (mx0 (σ 0 1 - 10))
def holF (σ : Nu) : Nu := if hol σ then up2 σ 0 1 (mx0 (σ 0 1 - 4)) else σ
/-- the first k have a day less to be put off -/
def offF (σ : Nu) : Nat → Nu | 0 => σ | k + 1 => up2 (offF σ k) 6 k (mx0 (offF σ k 6 k - 1))
/-- a day -/
def dayF (σ : Nu) : Nu := up2 (offF (holF (tireF σ)) (szN σ)) 0 0 (σ 0 0 + 1)
def daysF (σ : Nu) : Nat → Nu | 0 => σ | k + 1 => dayF (daysF σ k)
/-- the days till something holds first, seen from here: at most f + 1 -/
def till (g : Nu → Bool) : Nat → Nu → Nat | 0, σ => if g σ then 0 else 1 | f + 1, σ => if g σ then 0 else till g f (dayF σ) + 1
def Inv (σ : Nu) : Prop := (∃ n : Nat, n ≤ 8 ∧ σ 0 3 = nI n) ∧ (∃ d : Nat, d < 1000000 ∧ σ 0 0 = nI d) ∧ (0 ≤ (σ 0 1).toInt ∧ (σ 0 1).toInt ≤ 99) ∧ (0 ≤ (σ 0 2).toInt ∧ (σ 0 2).toInt ≤ 9999) ∧ (∀ p, 0 ≤ (σ 4 p).toInt ∧ (σ 4 p).toInt ≤ 9999) ∧ (∀ p, 0 ≤ (σ 6 p).toInt ∧ (σ 6 p).toInt ≤ 99)
theorem Inv.sz {σ : Nu} (h : Inv σ) : σ 0 3 = nI (szN σ) := by
  obtain ⟨⟨n, h1, h2⟩, -⟩ := h
  rw [szN, h2, nI_clamp (by omega)]
theorem Inv.sz8 {σ : Nu} (h : Inv σ) : szN σ ≤ 8 := by
  obtain ⟨⟨n, h1, h2⟩, -⟩ := h
  rw [szN, h2, nI_clamp (by omega)]; exact h1
theorem Inv.dy {σ : Nu} (h : Inv σ) : σ 0 0 = nI (dyN σ) := by
  obtain ⟨-, ⟨n, h1, h2⟩, -⟩ := h
  rw [dyN, h2, nI_clamp (by omega)]
theorem Inv.dyM {σ : Nu} (h : Inv σ) : dyN σ < 1000000 := by
  obtain ⟨-, ⟨n, h1, h2⟩, -⟩ := h
  rw [dyN, h2, nI_clamp (by omega)]; exact h1
/-- the nursery's cells -/
abbrev wN (G : pG) (o : Nat) (q : Nat → Nat) (σ : Nu) : va_W := [(o, .inr (0, [.int (σ 0 0), .int (σ 0 1), .int (σ 0 2), .int (σ 0 3), .ref (q 1), .ref (q 2), .ref (q 3), .ref (q 4), .ref (q 5), .ref (q 6)])), (q 1, .inl (gI G, 7, .inl (σ 1))), (q 2, .inl (gI G, 8, .inl (σ 2))), (q 3, .inl (gI G, 8, .inl (σ 3))), (q 4, .inl (gI G, 8, .inl (σ 4))), (q 5, .inl (gI G, 8, .inl (σ 5))), (q 6, .inl (gI G, 8, .inl (σ 6)))]
/-! small things for the walks -/
theorem iinc1 (k : Nat) : nI k + Int32.ofInt 1 = nI (k + 1) := nI_1 k
theorem iincm (k : Nat) : nI (k + 1) + Int32.ofInt (-1) = nI k := pk_m1 k
theorem tb_out {x : Int32} {lo hi : Int} (h : ∀ z : Int, lo ≤ z → z ≤ hi → ¬ x.toInt = z) : x.toInt < lo ∨ hi < x.toInt := by
  rcases Int.lt_or_le x.toInt lo with q | q
  · exact Or.inl q
  · rcases Int.lt_or_le hi x.toInt with q2 | q2
    · exact Or.inr q2
    · exact absurd rfl (h x.toInt q q2)
theorem ne_ti {x y : Int32} {z : Int} (h : ¬ x = y) (hy : y.toInt = z) : ¬ x.toInt = z := fun e => h (Int32.toInt_inj.mp (by rw [e, hy]))
theorem arrV_congr {c : ClassId} {n : Nat} {f g : Nat → Value} (h : ∀ j, j < n → f j = g j) : arrV c n f = arrV c n g := by
  unfold arrV
  congr 1
  apply Array.ext
  · simp
  · intro i h1 h2
    simp only [Array.getElem_ofFn]
    exact h i (by simpa using h1)
theorem j_cell {G : pG} {K : pK} {cells slots : Nat} {ws : va_W} {lv : List (Nat × Value)} {pc : Nat} {st : List Value} (q0 : Nat) (ws' : va_W) {a : Nat} {e e' : va_E} (ha : ws[q0]? = some (a, e)) (he : ∀ H, va_at (gD G) vwCl (a, e) H → va_at (gD G) vwCl (a, e') H) (hws : ws.set q0 (a, e') = ws') (k : JJ G K cells slots ws' lv pc st) : JJ G K cells slots ws lv pc st := by
  subst hws
  intro H locs ls hP hD hS hl
  refine k H locs ls ?_ ?_ hS hl
  · intro i q hq
    rw [List.getElem?_set] at hq
    by_cases hi : q0 = i
    · subst hi
      rw [if_pos rfl] at hq
      split at hq
      · cases hq
        exact he H (hP q0 _ ha)
      · cases hq
    · rw [if_neg hi] at hq
      exact hP i q hq
  · refine va_D.addr ?_ hD
    rw [List.map_set]
    apply List.ext_getElem?
    intro i
    rw [List.getElem?_set]
    by_cases hi : q0 = i
    · subst hi
      rw [if_pos rfl, List.getElem?_map, ha]
      have : q0 < ws.length := (List.getElem?_eq_some_iff.mp ha).1
      simp [this]
    · rw [if_neg hi]
theorem j_arrI {G : pG} {K : pK} {cells slots : Nat} {ws : va_W} {lv : List (Nat × Value)} {pc : Nat} {st : List Value} (q0 : Nat) (g : Nat → Int32) (ws' : va_W) {a n : Nat} {c : ClassId} {f : Nat → Int32} (ha : ws[q0]? = some (a, .inl (c, n, .inl f))) (h : ∀ j, j < n → f j = g j) (hws : ws.set q0 (a, .inl (c, n, .inl g)) = ws') (k : JJ G K cells slots ws' lv pc st) : JJ G K cells slots ws lv pc st :=
  j_cell q0 ws' ha (fun H hH => by
    have e : arrV c n (fun j => .int (f j)) = arrV c n (fun j => .int (g j)) := arrV_congr (fun j hj => by rw [h j hj])
    show H[a]? = some (arrV c n (fun j => .int (g j)))
    rw [← e]; exact hH) hws k
theorem j_arrJ {G : pG} {K : pK} {cells slots : Nat} {ws : va_W} {lv : List (Nat × Value)} {pc : Nat} {st : List Value} (q0 : Nat) (g : Nat → Int64) (ws' : va_W) {a n : Nat} {c : ClassId} {f : Nat → Int64} (ha : ws[q0]? = some (a, .inl (c, n, .inr (.inl f)))) (h : ∀ j, j < n → f j = g j) (hws : ws.set q0 (a, .inl (c, n, .inr (.inl g))) = ws') (k : JJ G K cells slots ws' lv pc st) : JJ G K cells slots ws lv pc st :=
  j_cell q0 ws' ha (fun H hH => by
    have e : arrV c n (fun j => .long (f j)) = arrV c n (fun j => .long (g j)) := arrV_congr (fun j hj => by rw [h j hj])
    show H[a]? = some (arrV c n (fun j => .long (g j)))
    rw [← e]; exact hH) hws k
