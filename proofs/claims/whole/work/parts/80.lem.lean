/-! rules for the law's own walk -/
section JW
variable {G : pG} {K : pK} {cc : ByteArray} {own : String} {Ts : List Cond} {nL : Nat} {rm : Room} {cells slots : Nat} {ws : va_W} {lv : List (Nat × Value)} {st : List Value}
theorem j_sld (pc : Nat) (cx : CX G K cc own Ts nL rm) {b L : Nat} {xs : Nat → Int32} (hX : va_X b L xs (ks K) (ks K).heap) (hbl : b < (ks K).heap.size) (hbA : ¬ kA K b) (i : Nat) {x : Int32} (hx : x = nI i) (hlt : i < L) (hL : L < 2147483648) (hdg : decode cc pc = .ok (.iaload, 1)) (kk : JJ G K cells slots ws lv (pc + 1) (.int (xs i) :: st)) : JJ G K cells slots ws lv pc (.int x :: .ref b :: st) := by
  subst hx
  intro H locs ls hP hD hS hl
  refine va_sld cx.1 cx.2.1 hX hbl hbA hS (vp_in_nI hlt hL) hdg ?_
  rw [nI_clamp (Nat.lt_trans hlt hL)]
  exact kk H locs ls hP hD hS hl
theorem j_slen (pc : Nat) (cx : CX G K cc own Ts nL rm) {b L : Nat} {xs : Nat → Int32} (hX : va_X b L xs (ks K) (ks K).heap) (hbl : b < (ks K).heap.size) (hbA : ¬ kA K b) (hdg : decode cc pc = .ok (.arraylength, 1)) (kk : JJ G K cells slots ws lv (pc + 1) (.int (nI L) :: st)) : JJ G K cells slots ws lv pc (.ref b :: st) :=
  fun H locs ls hP hD hS hl => va_slen cx.1 cx.2.1 hX hbl hbA hS hdg (kk H locs ls hP hD hS hl)
end JW
theorem iinc6 (k : Nat) : nI k + Int32.ofInt 6 = nI (k + 6) := by
  rw [show Int32.ofInt 6 = nI 6 from by decide]; exact nI_add k 6
theorem lw_in {L i : Nat} (hL : L ≤ 3072) (hi : i ≤ 4000) (h : ¬ nI L - 6 < nI i) : i + 6 ≤ L := by
  rw [fa_lt, nI_toInt (by omega)] at h
  have e : (nI L - 6).toInt = (L : Int) - 6 := by
    have h6 : (6 : Int32).toInt = 6 := by decide
    rw [fb_subI (by rw [nI_toInt (by omega), h6]; omega) (by rw [nI_toInt (by omega), h6]; omega), nI_toInt (by omega), h6]
  rw [e] at h
  omega
theorem lw_out {L i : Nat} (hL : L ≤ 3072) (hi : i ≤ 4000) (h : L ≤ i) : nI L - 6 < nI i := by
  rw [fa_lt, nI_toInt (by omega)]
  have e : (nI L - 6).toInt = (L : Int) - 6 := by
    have h6 : (6 : Int32).toInt = 6 := by decide
    rw [fb_subI (by rw [nI_toInt (by omega), h6]; omega) (by rw [nI_toInt (by omega), h6]; omega), nI_toInt (by omega), h6]
  rw [e]
  omega
theorem kn_sh {S S' : St} {k : Nat} (h : shC S S' k (sN S)) : sN S' = sN S := by
  obtain ⟨f, b, z, c, rfl⟩ := h
  rfl
theorem kn_count (w : Int32) (S : St) : sN (sp_count w S).2 = sN S := by
  unfold sp_count
  repeat' split
  all_goals rfl
theorem kn_status (w : Int32) (S : St) : sN (sp_status w S).2 = sN S := by
  unfold sp_status
  repeat' split
  all_goals rfl
