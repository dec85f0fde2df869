/-! what the model's own words come to -/
def hd (v lo hi : Int32) : Int32 := if v < lo then lo else if hi < v then hi else v
theorem mx0_ge {v : Int32} (h : 0 ≤ v) : mx0 v = v := by
  unfold mx0
  by_cases q : 0 < v
  · rw [if_pos q]
  · rw [if_neg q]
    apply Int32.toInt_inj.mp
    rw [fa_le] at h
    rw [fa_lt] at q
    rw [ti_0] at *
    omega
theorem mx0_lt {v : Int32} (h : ¬ 0 ≤ v) : mx0 v = 0 := by
  unfold mx0
  rw [if_neg]
  rw [fa_le] at h
  rw [fa_lt]
  omega
theorem i_asa (a b c : Int32) : a + b - c = a + (b - c) := by rw [Int32.sub_eq_add_neg, Int32.sub_eq_add_neg, Int32.add_assoc]
theorem i_or0 (x : Int32) : x ||| 0 = x := Int32.or_zero
theorem off_0 {σ : Nu} {k : Nat} (hI : Inv σ) (h : σ 6 k ≤ 0) : σ 6 k = 0 := by
  have := (hI.2.2.2.2.2 k).1
  apply Int32.toInt_inj.mp
  rw [fa_le] at h
  rw [ti_0] at *
  omega
theorem off_n {σ : Nu} {k : Nat} (h : ¬ σ 6 k ≤ 0) : σ 6 k ≠ 0 := fun e => h (by rw [e]; decide)
def cpF (f g : Nat → Int32) (i : Nat) : Nat → Int32 := fun j => if j < i then f j else g j
theorem cpF_s (f g : Nat → Int32) (i : Nat) : upd (cpF f g i) i (f i) = cpF f g (i + 1) := by
  funext j
  unfold upd cpF
  by_cases h1 : j = i
  · subst h1; simp
  · by_cases h2 : j < i
    · have : j < i + 1 := by omega
      simp [h1, h2, this]
    · have : ¬ j < i + 1 := by omega
      simp [h1, h2, this]
theorem cpF_in {f g : Nat → Int32} {i j : Nat} (h : j < i) : cpF f g i j = f j := if_pos h
theorem hd_mx (v : Int32) : hd v 0 99 = mx0 (mnI 99 v) := by
  apply Int32.toInt_inj.mp
  rw [mx0_ti, mnI_ti, ti_99]
  unfold hd
  have e1 : (v < 0) = (v.toInt < 0) := propext (fa_lt v 0)
  have e2 : (99 < v) = (99 < v.toInt) := propext (fa_lt 99 v)
  simp only [e1, e2]
  split
  · rw [ti_0]; repeat' split
    all_goals omega
  · split
    · rw [ti_99]; repeat' split
      all_goals omega
    · repeat' split
      all_goals omega
theorem hd_ti {v lo hi : Int32} (h : lo.toInt ≤ hi.toInt) : (hd v lo hi).toInt = if v.toInt < lo.toInt then lo.toInt else if hi.toInt < v.toInt then hi.toInt else v.toInt := by
  unfold hd
  have e1 : (v < lo) = (v.toInt < lo.toInt) := propext (fa_lt v lo)
  have e2 : (hi < v) = (hi.toInt < v.toInt) := propext (fa_lt hi v)
  simp only [e1, e2]
  split
  · rfl
  · split <;> rfl
theorem hd_mn {v : Int32} (h : 0 ≤ v.toInt) : hd v 0 9999 = mnI 9999 v := by
  apply Int32.toInt_inj.mp
  rw [mnI_ti, hd_ti (by decide), ti_0, ti_9999]
  repeat' split
  all_goals omega
theorem hd_same {v : Int32} (h : 0 ≤ v.toInt ∧ v.toInt ≤ 9999) : hd v 0 9999 = v := by
  apply Int32.toInt_inj.mp
  rw [hd_ti (by decide), ti_0, ti_9999]
  repeat' split
  all_goals omega
theorem hd_99 {v : Int32} (h : 0 ≤ v.toInt ∧ v.toInt ≤ 99) : hd v 0 99 = v := by
  apply Int32.toInt_inj.mp
  rw [hd_ti (by decide), ti_0, ti_99]
  repeat' split
  all_goals omega
theorem hd_mx0 {v : Int32} (h : v.toInt ≤ 99) : hd v 0 99 = mx0 v := by
  apply Int32.toInt_inj.mp
  rw [hd_ti (by decide), mx0_ti, ti_0, ti_99]
  repeat' split
  all_goals omega
theorem i_sub0 (v : Int32) : v - 0 = v := Int32.sub_zero v
theorem i_add0 (v : Int32) : v + 0 = v := Int32.add_zero v
theorem i_m10 (v : Int32) : v + (-10) = v - 10 := by rw [Int32.sub_eq_add_neg]
theorem pts_0 {σ : Nu} (h : Inv σ) (p : Nat) : 0 ≤ (σ 4 p + giveF σ p).toInt := by
  have h1 := giveF_rng h p
  have h2 := h.2.2.2.2.1 p
  rw [fb_addI (by omega) (by omega)]; omega
theorem late_1 {σ : Nu} (h : Inv σ) : 0 ≤ (σ 0 2 + 1).toInt := by
  have h1 := h.2.2.2.1
  rw [fb_addI (by rw [ti_1]; omega) (by rw [ti_1]; omega), ti_1]; omega
theorem wy_10 {σ : Nu} (h : Inv σ) : (σ 0 1 - 10).toInt ≤ 99 := by
  have h1 := h.2.2.1
  rw [fb_subI (by rw [ti_10]; omega) (by rw [ti_10]; omega), ti_10]; omega
theorem wy_4 {σ : Nu} (h : Inv σ) : (σ 0 1 - 4).toInt ≤ 99 := by
  have h1 := h.2.2.1
  rw [fb_subI (by rw [ti_4]; omega) (by rw [ti_4]; omega), ti_4]; omega
theorem of_1 {σ : Nu} (h : Inv σ) (p : Nat) : (σ 6 p - 1).toInt ≤ 99 := by
  have h1 := h.2.2.2.2.2 p
  rw [fb_subI (by rw [ti_1]; omega) (by rw [ti_1]; omega), ti_1]; omega
theorem up2_comm (σ : Nu) {a k b j : Nat} (v w : Int32) (h : ¬ (a = b ∧ k = j)) : up2 (up2 σ a k v) b j w = up2 (up2 σ b j w) a k v := by
  funext x y
  simp only [up2_g]
  by_cases h1 : x = b ∧ y = j
  · have h2 : ¬ (x = a ∧ y = k) := fun q => h ⟨q.1.symm.trans h1.1, q.2.symm.trans h1.2⟩
    rw [if_pos h1, if_neg h2, if_pos h1]
  · rw [if_neg h1]
    by_cases h2 : x = a ∧ y = k
    · rw [if_pos h2, if_pos h2]
    · rw [if_neg h2, if_neg h2, if_neg h1]
/-- days as the model tells them: within most, or -1 -/
def tM (most t : Nat) : Int32 := if t ≤ most then nI t else -1
/-- the model's object -/
abbrev wMO (o : Nat) (am : Nat → Nat) (ik : Bool) (la tn tk be an va : Int32) (bd : Bool) : va_W := [(o, .inr (5, [.ref (am 0), .ref (am 1), .ref (am 2), .int (bI ik), .ref (am 3), .int la, .ref (am 4), .int tn, .int tk, .int be, .int an, .int va, .int (bI bd), .ref (am 5), .ref (am 6), .ref (am 7)]))]
theorem goes_late {σ : Nu} {p : Nat} (h1 : done (up2 σ 4 p (mnI 9999 (σ 4 p + giveF σ p))) p = true) (h2 : σ 5 p < σ 0 0) : up2 (up2 (up2 σ 4 p (mnI 9999 (σ 4 p + giveF σ p))) 0 2 (mnI 9999 (σ 0 2 + 1))) 0 1 (mx0 (mnI 99 (σ 0 1 + kTires (σ 2 p)))) = playF σ p := by
  rw [up2_comm _ _ _ (by omega)]
  unfold playF
  exact (if_pos ⟨h1, h2⟩).symm
theorem goes_not {σ : Nu} {p : Nat} (h : ¬ (done (up2 σ 4 p (mnI 9999 (σ 4 p + giveF σ p))) p = true ∧ σ 5 p < σ 0 0)) : up2 (up2 (up2 σ 4 p (mnI 9999 (σ 4 p + giveF σ p))) 0 2 (σ 0 2)) 0 1 (mx0 (mnI 99 (σ 0 1 + kTires (σ 2 p)))) = playF σ p := by
  have e : up2 (up2 σ 4 p (mnI 9999 (σ 4 p + giveF σ p))) 0 2 (σ 0 2) = up2 σ 4 p (mnI 9999 (σ 4 p + giveF σ p)) := up2_same (up2 σ 4 p (mnI 9999 (σ 4 p + giveF σ p))) 0 2
  rw [e]
  unfold playF
  exact (if_neg h).symm
def TI (g : Nu → Bool) (most : Nat) (σ : Nu) (d k : Nat) : Prop := (d = 0 ∧ till g most σ = k) ∨ ∃ e, d = e + 1 ∧ till g most σ = k + till g e (daysF σ k)
theorem ti_start (g : Nu → Bool) (most : Nat) (σ : Nu) : TI g most σ (most + 1) 0 := Or.inr ⟨most, rfl, by rw [Nat.zero_add]; rfl⟩
theorem ti_no {g : Nu → Bool} {most : Nat} {σ : Nu} {d k : Nat} (h : TI g most σ (d + 1) k) (hn : g (daysF σ k) = false) : TI g most σ d (k + 1) := by
  rcases h with ⟨h1, -⟩ | ⟨e, h1, h2⟩
  · omega
  · have he : e = d := by omega
    subst he
    cases e with
    | zero => rw [till_0n hn] at h2; exact Or.inl ⟨rfl, h2⟩
    | succ e => rw [till_no hn] at h2; exact Or.inr ⟨e, rfl, by rw [h2]; show _ = k + 1 + till g e (dayF (daysF σ k)); omega⟩
theorem ti_yes {g : Nu → Bool} {most : Nat} {σ : Nu} {d k : Nat} (h : TI g most σ (d + 1) k) (hy : g (daysF σ k) = true) : till g most σ = k := by
  rcases h with ⟨h1, -⟩ | ⟨e, h1, h2⟩
  · omega
  · rw [till_yes hy] at h2; exact h2
theorem ti_end {g : Nu → Bool} {most : Nat} {σ : Nu} {k : Nat} (h : TI g most σ 0 k) : till g most σ = k := by
  rcases h with ⟨-, h⟩ | ⟨e, h1, -⟩
  · exact h
  · omega
/-- a set as bits of a number -/
def bsN (f : Nat → Bool) : Nat → Nat | 0 => 0 | k + 1 => bsN f k + (if f k then 2 ^ k else 0)
theorem bsN_lt (f : Nat → Bool) : ∀ k, bsN f k < 2 ^ k
  | 0 => Nat.one_pos
  | k + 1 => by rw [bsN, Nat.pow_succ]; have := bsN_lt f k; split <;> omega
theorem sh_tab : ∀ k, k < 9 → ((1 : Int32) <<< (nI k &&& 31)) = nI (2 ^ k) := by decide +kernel
theorem nI_or (a b : Nat) : nI a ||| nI b = nI (a ||| b) := by
  apply Int32.toBitVec_inj.1
  show BitVec.ofNat 32 a ||| BitVec.ofNat 32 b = BitVec.ofNat 32 (a ||| b)
  apply BitVec.eq_of_getLsbD_eq
  intro i hi
  simp [hi]
theorem or_add {a k : Nat} (h : a < 2 ^ k) : a ||| 2 ^ k = a + 2 ^ k := by
  have h1 := Nat.two_pow_add_eq_or_of_lt h 1
  rw [Nat.mul_one] at h1
  rw [Nat.or_comm, ← h1, Nat.add_comm]
theorem setF_bs (σ : Nu) (f : Nat → Bool) : ∀ n, n ≤ 8 → setF σ f n = nI (bsN f n)
  | 0, _ => rfl
  | n + 1, h => by
    rw [setF, bsN, setF_bs σ f n (by omega)]
    cases hf : f n
    · simp
    · rw [if_pos rfl, if_pos rfl, sh_tab n (by omega), nI_or, or_add (bsN_lt f n)]
theorem bs_full (σ : Nu) : ∀ n, bsN (done σ) n + 1 = 2 ^ n ↔ undN σ n = 0
  | 0 => by simp [bsN, undN]
  | n + 1 => by
    have ih := bs_full σ n
    have hl := bsN_lt (done σ) n
    rw [bsN, undN, Nat.pow_succ]
    cases hd : done σ n
    · simp only [Bool.false_eq_true, if_false]
      constructor
      · intro h; omega
      · intro h; omega
    · simp only [if_true]
      rw [show undN σ n + 0 = undN σ n from rfl, ← ih]
      omega
theorem all_set {σ : Nu} {n : Nat} (h : n ≤ 8) : (setF σ (done σ) n = ((1 : Int32) <<< (nI n &&& 31)) - 1) ↔ undN σ n = 0 := by
  have hl := bsN_lt (done σ) n
  have h2 : 2 ^ n ≤ 2 ^ 8 := Nat.pow_le_pow_right (by omega) h
  have h1 : 1 ≤ 2 ^ n := Nat.one_le_two_pow
  rw [setF_bs σ _ n h, sh_tab n (by omega), ← bs_full σ n]
  show nI _ = nI _ - nI 1 ↔ _
  rw [pk_sub h1, nI_eq (by omega) (by omega)]
  omega
def oN (v : Int32) : Int32 := if v < 0 then fcode 3 else v
def oF (v : Int32) (fo : Nat → Int32) : Nat → Int32 := if v < 0 then upd fo 3 (fo 3 + 1) else fo
theorem nN_lt {k : Nat} (h : k < 1000000) : ¬ nI k < 0 := nI_pos (by omega)
theorem oN_M (S : St) (t : Nat) (m : Nat) (h : m < 1000) : oN (tM m t) = (orN S m t).1 := by
  unfold oN tM orN
  by_cases q : t ≤ m
  · rw [if_pos q, if_pos q, if_neg (nN_lt (by omega))]
  · rw [if_neg q, if_neg q, if_pos (by decide)]; rfl
theorem oF_M (S : St) (t : Nat) (m : Nat) (h : m < 1000) : oF (tM m t) (sF S) = sF (orN S m t).2 := by
  unfold oF tM orN
  by_cases q : t ≤ m
  · rw [if_pos q, if_pos q, if_neg (nN_lt (by omega))]
  · rw [if_neg q, if_neg q, if_pos (by decide)]; rfl
/-- how many bits -/
def pcF : Nat → Nat → Nat | 0, _ => 0 | f + 1, s => if s = 0 then 0 else pcF f (s &&& (s - 1)) + 1
theorem cas_eq (σ : Nu) (k l du pf : Int32) : up2 (up2 (up2 (up2 (up2 (up2 σ 0 3 (nI (szN σ + 1))) 2 (szN σ) k) 3 (szN σ) l) 4 (szN σ) 0) 5 (szN σ) du) 6 (szN σ) pf = addF σ k l du pf := by
  funext x y
  unfold addF
  simp only [up2_g, nI_1]
  by_cases h0 : x = 0 ∧ y = 3
  · obtain ⟨rfl, rfl⟩ := h0
    simp
  · simp [h0]
/-! the class's object, its tape, reader, sheets -/
abbrev wXO (o : Nat) (ax : Nat → Nat) (kp : Bool) : va_W := [(o, .inr (4, [.ref (ax 1), .ref (ax 2), .ref (ax 3), .int (bI kp), .ref (ax 4), .ref (ax 5), .ref (ax 6), .ref (ax 7)]))]
abbrev wTP (ax : Nat → Nat) (tn : Int32) : va_W := [(ax 4, .inr (3, [.ref (ax 8), .int tn]))]
abbrev wRD (ax : Nat → Nat) (tk st be nu : Int32) : va_W := [(ax 5, .inr (1, [.ref (ax 4), .int tk, .int st, .int be, .int nu]))]
abbrev wSH (a n : Nat) (b z : Int32) : va_W := [(a, .inr (2, [.ref n, .int b, .int z]))]
theorem bcase (b : Bool) : b = true ∨ b = false := by cases b <;> simp
theorem isP_eq {S : St} (hI : Inv (sN S)) (p : Int32) : isP S p = inI p 0 (nI (szN (sN S)) - 1) := by rw [isP, hI.sz]
def dN (m t : Nat) : Int32 := if t ≤ m then nI t else fcode 3
def dF (m t : Nat) (fo : Nat → Int32) : Nat → Int32 := if t ≤ m then fo else upd fo 3 (fo 3 + 1)
theorem orN_eq (S : St) (m t : Nat) : orN S m t = (dN m t, stF S (dF m t (sF S))) := by
  unfold orN dN dF
  by_cases q : t ≤ m
  · rw [if_pos q, if_pos q, if_pos q]; rfl
  · rw [if_neg q, if_neg q, if_neg q]; rfl
theorem oN_tM {m : Nat} (t : Nat) (h : m < 1000) : oN (tM m t) = dN m t := by
  unfold oN tM dN
  by_cases q : t ≤ m
  · rw [if_pos q, if_pos q, if_neg (nN_lt (by omega))]
  · rw [if_neg q, if_neg q, if_pos (by decide)]
theorem oF_tM {m : Nat} (t : Nat) (fo : Nat → Int32) (h : m < 1000) : oF (tM m t) fo = dF m t fo := by
  unfold oF tM dF
  by_cases q : t ≤ m
  · rw [if_pos q, if_pos q, if_neg (nN_lt (by omega))]
  · rw [if_neg q, if_neg q, if_pos (by decide)]
theorem tR_max {m t : Nat} (h : t ≤ m) (hm : m < 1000) : ¬ tR m t = 100000 := by
  unfold tR; rw [if_pos h]
  intro e
  have := (nI_eq (a := t) (b := 100000) (by omega) (by omega)).mp e
  omega
theorem don_k {m t : Nat} (h : ¬ tR m t = 100000) : tR m t = dN m t := by
  unfold dN
  unfold tR at h ⊢
  by_cases q : t ≤ m
  · rw [if_pos q, if_pos q]
  · rw [if_neg q] at h
    exact absurd rfl h
theorem don_f {m t : Nat} (fo : Nat → Int32) (h : ¬ tR m t = 100000) : fo = dF m t fo := by
  unfold dF
  unfold tR at h
  by_cases q : t ≤ m
  · rw [if_pos q]
  · rw [if_neg q] at h
    exact absurd rfl h
theorem don_n {m t : Nat} (hm : m < 1000) (h : tR m t = 100000) : fcode 3 = dN m t := by rw [dN, if_neg (fun q => tR_max q hm h)]
theorem don_g {m t : Nat} (fo : Nat → Int32) (hm : m < 1000) (h : tR m t = 100000) : upd fo 3 (fo 3 + 1) = dF m t fo := by rw [dF, if_neg (fun q => tR_max q hm h)]
theorem st_k {w : Int32} (h : inI w (-1) 6 = true) (h2 : ¬ w < 0) : ∃ k : Nat, k ≤ 6 ∧ w = nI k := by
  obtain ⟨-, h3⟩ := inI_t h
  exact in_k (M := 6) (m := 6) rfl (decide_eq_true ⟨Int32.not_lt.mp h2, h3⟩)
theorem in_02 {w : Int32} (h : inI w 0 2 = true) : w = 0 ∨ w = 1 ∨ w = 2 := by
  obtain ⟨k, h1, rfl⟩ := in_k (M := 2) (m := 2) rfl h
  have : k = 0 ∨ k = 1 ∨ k = 2 := by omega
  rcases this with rfl | rfl | rfl
  · exact Or.inl rfl
  · exact Or.inr (Or.inl rfl)
  · exact Or.inr (Or.inr rfl)
theorem in_01 {w : Int32} (h : inI w 0 1 = true) : w = 0 ∨ w = 1 := by
  obtain ⟨k, h1, rfl⟩ := in_k (M := 1) (m := 1) rfl h
  have : k = 0 ∨ k = 1 := by omega
  rcases this with rfl | rfl
  · exact Or.inl rfl
  · exact Or.inr rfl
theorem in_14 {w : Int32} (h : inI w 1 4 = true) : w = 1 ∨ w = 2 ∨ w = 3 ∨ w = 4 := by
  obtain ⟨k, h0, h1, rfl⟩ := in_c (L := 1) (M := 4) (a := 1) (m := 4) rfl rfl h
  have : k = 1 ∨ k = 2 ∨ k = 3 ∨ k = 4 := by omega
  rcases this with rfl | rfl | rfl | rfl
  · exact Or.inl rfl
  · exact Or.inr (Or.inl rfl)
  · exact Or.inr (Or.inr (Or.inl rfl))
  · exact Or.inr (Or.inr (Or.inr rfl))
theorem in_09 {w : Int32} (h : inI w 0 9 = true) : w = 0 ∨ w = 1 ∨ w = 2 ∨ w = 3 ∨ w = 4 ∨ w = 5 ∨ w = 6 ∨ w = 7 ∨ w = 8 ∨ w = 9 := by
  obtain ⟨k, h1, rfl⟩ := in_k (M := 9) (m := 9) rfl h
  have : k = 0 ∨ k = 1 ∨ k = 2 ∨ k = 3 ∨ k = 4 ∨ k = 5 ∨ k = 6 ∨ k = 7 ∨ k = 8 ∨ k = 9 := by omega
  rcases this with rfl | rfl | rfl | rfl | rfl | rfl | rfl | rfl | rfl | rfl
  · exact Or.inl rfl
  · exact Or.inr (Or.inl rfl)
  · exact Or.inr (Or.inr (Or.inl rfl))
  · exact Or.inr (Or.inr (Or.inr (Or.inl rfl)))
  · exact Or.inr (Or.inr (Or.inr (Or.inr (Or.inl rfl))))
  · exact Or.inr (Or.inr (Or.inr (Or.inr (Or.inr (Or.inl rfl)))))
  · exact Or.inr (Or.inr (Or.inr (Or.inr (Or.inr (Or.inr (Or.inl rfl))))))
  · exact Or.inr (Or.inr (Or.inr (Or.inr (Or.inr (Or.inr (Or.inr (Or.inl rfl)))))))
  · exact Or.inr (Or.inr (Or.inr (Or.inr (Or.inr (Or.inr (Or.inr (Or.inr (Or.inl rfl))))))))
  · exact Or.inr (Or.inr (Or.inr (Or.inr (Or.inr (Or.inr (Or.inr (Or.inr (Or.inr rfl))))))))
/-! bits of a set, counted -/
theorem pc_tab : ∀ k, k < 8 → ∀ s, s < 2 ^ k → pcF 9 (2 ^ k + s) = pcF 9 s + 1 := by decide +kernel
theorem pc_bs (σ : Nu) : ∀ n, n ≤ 8 → pcF 9 (bsN (done σ) n) + undN σ n = n
  | 0, _ => by simp [bsN, undN]; decide
  | n + 1, h => by
    have ih := pc_bs σ n (by omega)
    rw [bsN, undN]
    cases hd : done σ n
    · simp; omega
    · simp only [if_true]
      rw [Nat.add_comm (bsN (done σ) n), pc_tab n (by omega) _ (bsN_lt _ _)]
      omega
theorem bit_tab : ∀ s, s < 256 → nI s &&& (nI s - 1) = nI (s &&& (s - 1)) ∨ s = 0 := by decide +kernel
theorem bit_lt : ∀ s, s < 256 → s ≠ 0 → s &&& (s - 1) < s := by decide +kernel
theorem pc_st : ∀ f, f < 9 → ∀ s, s < 256 → s ≠ 0 → pcF (f + 1) s = pcF f (s &&& (s - 1)) + 1 := by
  intro f hf s hs h0
  rw [pcF, if_neg h0]
theorem pc_dn : ∀ s, s < 256 → s ≠ 0 → pcF 9 (s &&& (s - 1)) + 1 = pcF 9 s := by decide +kernel
theorem nd_tab : ∀ a, a < 100 → (0 ≤ (2 * nI a).toInt ∧ (2 * nI a).toInt ≤ 203) ∧ (0 ≤ (2 * nI a + 5).toInt ∧ (2 * nI a + 5).toInt ≤ 203) ∧ (0 ≤ (nI a + nI a / 2).toInt ∧ (nI a + nI a / 2).toInt ≤ 203) ∧ (0 ≤ (nI a).toInt ∧ (nI a).toInt ≤ 203) := by decide +kernel
theorem kNeeds_rng (k : Int32) {n : Int32} (h0 : 0 ≤ n.toInt) (h1 : n.toInt ≤ 99) : 0 ≤ (kNeeds k n).toInt ∧ (kNeeds k n).toInt ≤ 203 := by
  obtain ⟨a, ha, rfl, -⟩ := nI_ofTi (n := 99) h0 h1
  obtain ⟨t1, t2, t3, t4⟩ := nd_tab a (by omega)
  have e1 : 0 ≤ (1 : Int32).toInt ∧ (1 : Int32).toInt ≤ 203 := by decide
  unfold kNeeds
  generalize 2 * nI a = y1 at t1 t2 ⊢
  generalize y1 + 5 = y2 at t2 ⊢
  generalize nI a + nI a / 2 = y3 at t3 ⊢
  generalize nI a = y4 at t4 ⊢
  (repeat' split) <;> first | exact t1 | exact t2 | exact t3 | exact t4 | exact e1
theorem left_eq {σ : Nu} (hI : Inv σ) (hL : ∀ q, 0 ≤ (σ 3 q).toInt ∧ (σ 3 q).toInt ≤ 99) (k : Nat) : hd (needF σ k - σ 4 k) 0 9999 = mx0 (needF σ k - σ 4 k) := by
  have h1 := kNeeds_rng (σ 2 k) (hL k).1 (hL k).2
  have h2 := hI.2.2.2.2.1 k
  have h3 : (needF σ k - σ 4 k).toInt ≤ 9999 := by
    unfold needF
    rw [fb_subI (by omega) (by omega)]; omega
  apply Int32.toInt_inj.mp
  rw [hd_ti (by decide), mx0_ti, ti_0, ti_9999]
  repeat' split
  all_goals omega
