/-! what the model's own words come to -/
def hd (v lo hi : Int32) : Int32 := if v < lo then lo else if hi < v then hi else v
theorem mx0_ge {v : Int32} (h : 0 ≤ v) : mx0 v = v := by
  unfold mx0
  by_cases q : 0 < v
  · rw [if_pos q]
  · rw [if_neg q]
    apply Int32.toInt_inj.mp
    rw [fa_le] at h
    rw [fa_lt] at q
    rw [ti_0] at *
    omega
theorem mx0_lt {v : Int32} (h : ¬ 0 ≤ v) : mx0 v = 0 := by
  unfold mx0
  rw [if_neg]
  rw [fa_le] at h
  rw [fa_lt]
  omega
theorem i_asa (a b c : Int32) : a + b - c = a + (b - c) := by rw [Int32.sub_eq_add_neg, Int32.sub_eq_add_neg, Int32.add_assoc]
theorem i_or0 (x : Int32) : x ||| 0 = x := Int32.or_zero
theorem off_0 {σ : Nu} {k : Nat} (hI : Inv σ) (h : σ 6 k ≤ 0) : σ 6 k = 0 := by
  have := (hI.2.2.2.2.2 k).1
  apply Int32.toInt_inj.mp
  rw [fa_le] at h
  rw [ti_0] at *
  omega
theorem off_n {σ : Nu} {k : Nat} (h : ¬ σ 6 k ≤ 0) : σ 6 k ≠ 0 := fun e => h (by rw [e]; decide)
def cpF (f g : Nat → Int32) (i : Nat) : Nat → Int32 := fun j => if j < i then f j else g j
theorem cpF_s (f g : Nat → Int32) (i : Nat) : upd (cpF f g i) i (f i) = cpF f g (i + 1) := by
  funext j
  unfold upd cpF
  by_cases h1 : j = i
  · subst h1; simp
  · by_cases h2 : j < i
    · have : j < i + 1 := by omega
      simp [h1, h2, this]
    · have : ¬ j < i + 1 := by omega
      simp [h1, h2, this]
theorem cpF_in {f g : Nat → Int32} {i j : Nat} (h : j < i) : cpF f g i j = f j := if_pos h
theorem hd_mx (v : Int32) : hd v 0 99 = mx0 (mnI 99 v) := by
  apply Int32.toInt_inj.mp
  rw [mx0_ti, mnI_ti, ti_99]
  unfold hd
  have e1 : (v < 0) = (v.toInt < 0) := propext (fa_lt v 0)
  have e2 : (99 < v) = (99 < v.toInt) := propext (fa_lt 99 v)
  simp only [e1, e2]
  split
  · rw [ti_0]; repeat' split
    all_goals omega
  · split
    · rw [ti_99]; repeat' split
      all_goals omega
    · repeat' split
      all_goals omega
theorem hd_ti {v lo hi : Int32} (h : lo.toInt ≤ hi.toInt) : (hd v lo hi).toInt = if v.toInt < lo.toInt then lo.toInt else if hi.toInt < v.toInt then hi.toInt else v.toInt := by
  unfold hd
  have e1 : (v < lo) = (v.toInt < lo.toInt) := propext (fa_lt v lo)
  have e2 : (hi < v) = (hi.toInt < v.toInt) := propext (fa_lt hi v)
  simp only [e1, e2]
  split
  · rfl
  · split <;> rfl
theorem hd_mn {v : Int32} (h : 0 ≤ v.toInt) : hd v 0 9999 = mnI 9999 v := by
  apply Int32.toInt_inj.mp
  rw [mnI_ti, hd_ti (by decide), ti_0, ti_9999]
  repeat' split
  all_goals omega
theorem hd_same {v : Int32} (h : 0 ≤ v.toInt ∧ v.toInt ≤ 9999) : hd v 0 9999 = v := by
  apply Int32.toInt_inj.mp
  rw [hd_ti (by decide), ti_0, ti_9999]
  repeat' split
  all_goals omega
theorem hd_99 {v : Int32} (h : 0 ≤ v.toInt ∧ v.toInt ≤ 99) : hd v 0 99 = v := by
  apply Int32.toInt_inj.mp
  rw [hd_ti (by decide), ti_0, ti_99]
  repeat' split
  all_goals omega
theorem hd_mx0 {v : Int32} (h : v.toInt ≤ 99) : hd v 0 99 = mx0 v := by
  apply Int32.toInt_inj.mp
  rw [hd_ti (by decide), mx0_ti, ti_0, ti_99]
  repeat' split
  all_goals omega
theorem i_sub0 (v : Int32) : v - 0 = v := Int32.sub_zero v
theorem i_add0 (v : Int32) : v + 0 = v := Int32.add_zero v
theorem i_m10 (v : Int32) : v + (-10) = v - 10 := by rw [Int32.sub_eq_add_neg]
theorem pts_0 {σ : Nu} (h : Inv σ) (p : Nat) : 0 ≤ (σ 4 p + giveF σ p).toInt := by
  have h1 := giveF_rng h p
  have h2 := h.2.2.2.2.1 p
  rw [fb_addI (by omega) (by omega)]; omega
theorem late_1 {σ : Nu} (h : Inv σ) : 0 ≤ (σ 0 2 + 1).toInt := by
  have h1 := h.2.2.2.1
  rw [fb_addI (by rw [ti_1]; omega) (by rw [ti_1]; omega), ti_1]; omega
theorem wy_10 {σ : Nu} (h : Inv σ) : (σ 0 1 - 10).toInt ≤ 99 := by
  have h1 := h.2.2.1
  rw [fb_subI (by rw [ti_10]; omega) (by rw [ti_10]; omega), ti_10]; omega
theorem wy_4 {σ : Nu} (h : Inv σ) : (σ 0 1 - 4).toInt ≤ 99 := by
  have h1 := h.2.2.1
  rw [fb_subI (by rw [ti_4]; omega) (by rw [ti_4]; omega), ti_4]; omega
theorem of_1 {σ : Nu} (h : Inv σ) (p : Nat) : (σ 6 p - 1).toInt ≤ 99 := by
  have h1 := h.2.2.2.2.2 p
  rw [fb_subI (by rw [ti_1]; omega) (by rw [ti_1]; omega), ti_1]; omega
theorem up2_comm (σ : Nu) {a k b j : Nat} (v w : Int32) (h : ¬ (a = b ∧ k = j)) : up2 (up2 σ a k v) b j w = up2 (up2 σ b j w) a k v := by
  funext x y
  simp only [up2_g]
  by_cases h1 : x = b ∧ y = j
  · have h2 : ¬ (x = a ∧ y = k) := fun q => h ⟨q.1.symm.trans h1.1, q.2.symm.trans h1.2⟩
    rw [if_pos h1, if_neg h2, if_pos h1]
  · rw [if_neg h1]
    by_cases h2 : x = a ∧ y = k
    · rw [if_pos h2, if_pos h2]
    · rw [if_neg h2, if_neg h2, if_neg h1]
/-- days as the model tells them: within most, or -1 -/
def tM (most t : Nat) : Int32 := if t ≤ most then nI t else -1
/-- the model's object -/
abbrev wMO (o : Nat) (am : Nat → Nat) (ik : Bool) (la tn tk be an va : Int32) (bd : Bool) : va_W := [(o, .inr (5, [.ref (am 0), .ref (am 1), .ref (am 2), .int (bI ik), .ref (am 3), .int la, .ref (am 4), .int tn, .int tk, .int be, .int an, .int va, .int (bI bd), .ref (am 5), .ref (am 6), .ref (am 7)]))]
