/-! A contract over a larger world; the state's invariant. -/
theorem va_A.sub {ws W1 : va_W} {is : List Nat} (hC : is.map (fun i => ws[i]?) = W1.map some) {sz q : Nat} (h : va_A W1 sz q) : va_A ws sz q := by
  rcases h with ⟨k, e, hk⟩ | h
  · have h1 : (W1.map some)[k]? = some (some (q, e)) := by rw [List.getElem?_map, hk]; rfl
    rw [← hC, List.getElem?_map] at h1
    cases hi : is[k]? with
    | none => rw [hi] at h1; cases h1
    | some i => rw [hi] at h1; exact Or.inl ⟨i, e, Option.some.inj h1⟩
  · exact Or.inr h
theorem ki_frame {l : Launch} {G : pG} {y : MethodName} {wy : List Cond} {rm : Room} {av : List Value} {W1 WB : va_W} {S S' : Type} {ok : S → Prop} {rv : S → Int32} {W2 : S → va_W} (h : KI l G y wy rm av W1 ok rv W2) (is : List Nat) (hC : is.map (fun i => WB[i]?) = W1.map some) (hn : va_nd is = true) {ok' : S' → Prop} {rv' : S' → Int32} {WF : S' → va_W} (f : S → S') (hok : ∀ u, ok u → ok' (f u)) (hrv : ∀ u, ok u → rv u = rv' (f u)) (hWF : ∀ u, ok u → rep WB is (W2 u) = WF (f u)) (hA : ∀ u, (WF u).map Prod.fst = WB.map Prod.fst) : KI l G y wy rm av WB ok' rv' WF := by
  refine ⟨hA, fun sz => MetFree.mono (h.2 sz) ?_ (fun _ _ _ _ _ h => h) ?_⟩
  · rintro a s ⟨h0, hsz, hP, hK, hD, hE⟩
    exact ⟨h0, hsz, sub_world hP is hC, hK, hD.sub is hn hC, hE.narrow (fun q hq => va_A.sub hC hq)⟩
  · rintro a s o t ⟨h0, hsz, hP, hK, hD, hE⟩ ⟨⟨⟨r, u, ho, ⟨hr, hu⟩, hB⟩, hF⟩, L, hL1, hL2⟩
    subst hsz
    have h9 := rep_world hP (hD.self (sz := s.heap.size)) is hC (h.1 u) hF.2 hB
    rw [hWF u hu] at h9
    exact ⟨⟨⟨r, f u, ho, ⟨hr.trans (hrv u hu), hok u hu⟩, h9.1⟩, hF.1, fun q h1 h2 => hF.2 q h1 (fun h3 => h2 (va_A.sub hC h3))⟩, L, hL1, fun q hq => va_A.sub hC (hL2 q hq)⟩
theorem kl_frame {l : Launch} {G : pG} {y : MethodName} {wy : List Cond} {rm : Room} {av : List Value} {W1 WB : va_W} {S S' : Type} {ok : S → Prop} {rv : S → Int64} {W2 : S → va_W} (h : KL l G y wy rm av W1 ok rv W2) (is : List Nat) (hC : is.map (fun i => WB[i]?) = W1.map some) (hn : va_nd is = true) {ok' : S' → Prop} {rv' : S' → Int64} {WF : S' → va_W} (f : S → S') (hok : ∀ u, ok u → ok' (f u)) (hrv : ∀ u, ok u → rv u = rv' (f u)) (hWF : ∀ u, ok u → rep WB is (W2 u) = WF (f u)) (hA : ∀ u, (WF u).map Prod.fst = WB.map Prod.fst) : KL l G y wy rm av WB ok' rv' WF := by
  refine ⟨hA, fun sz => MetFree.mono (h.2 sz) ?_ (fun _ _ _ _ _ h => h) ?_⟩
  · rintro a s ⟨h0, hsz, hP, hK, hD, hE⟩
    exact ⟨h0, hsz, sub_world hP is hC, hK, hD.sub is hn hC, hE.narrow (fun q hq => va_A.sub hC hq)⟩
  · rintro a s o t ⟨h0, hsz, hP, hK, hD, hE⟩ ⟨⟨⟨r, u, ho, ⟨hr, hu⟩, hB⟩, hF⟩, L, hL1, hL2⟩
    subst hsz
    have h9 := rep_world hP (hD.self (sz := s.heap.size)) is hC (h.1 u) hF.2 hB
    rw [hWF u hu] at h9
    exact ⟨⟨⟨r, f u, ho, ⟨hr.trans (hrv u hu), hok u hu⟩, h9.1⟩, hF.1, fun q h1 h2 => hF.2 q h1 (fun h3 => h2 (va_A.sub hC h3))⟩, L, hL1, fun q hq => va_A.sub hC (hL2 q hq)⟩
theorem s_k {s : Int32} (h : inI s 0 3 = true) : s = nI 0 ∨ s = nI 1 ∨ s = nI 2 ∨ s = nI 3 := by
  obtain ⟨k, hk, rfl⟩ := in_k (M := 3) (m := 3) rfl h
  rcases (show k = 0 ∨ k = 1 ∨ k = 2 ∨ k = 3 by omega) with rfl | rfl | rfl | rfl
  · exact Or.inl rfl
  · exact Or.inr (Or.inl rfl)
  · exact Or.inr (Or.inr (Or.inl rfl))
  · exact Or.inr (Or.inr (Or.inr rfl))
theorem pN_0 : pN (nI 0) = 0 := by decide
theorem pN_1 : pN (nI 1) = 1 := by decide
theorem pN_2 : pN (nI 2) = 2 := by decide
theorem pN_3 : pN (nI 3) = 3 := by decide
/-- what a sheet's call may change: one sheet, the findings, the nursery -/
def shC (S S' : St) (k : Nat) (σ : Nu) : Prop := ∃ (f : Nat → Int32) (b : Int32) (z : Nat) (c : Nat → Int64), S' = (σ, sK S, sP S, f, sT S, sL S, uA (sB S) k b, uA (sZ S) k z, uA (sC S) k c)
theorem shC.no (S : St) (σ : Nu) (f : Nat → Int32) (k : Nat) : shC S (σ, sK S, sP S, f, sT S, sL S, sB S, sZ S, sC S) k σ := ⟨f, sB S k, sZ S k, sC S k, by rw [uA_id, uA_id, uA_id]⟩
theorem shC.bz (S : St) (f : Nat → Int32) (k : Nat) (c : Nat → Int64) : shC S (sN S, sK S, sP S, f, sT S, sL S, sB S, sZ S, uA (sC S) k c) k (sN S) := ⟨f, sB S k, sZ S k, c, by rw [uA_id, uA_id]⟩
theorem shC_sheet (s b n : Int32) (S : St) : shC S (sp_sheet s b n S).2 (pN s) (sN S) := by
  unfold sp_sheet
  repeat' split
  all_goals first | exact shC.no S (sN S) _ _ | exact ⟨sF S, _, _, _, rfl⟩
theorem shC_write (s i : Int32) (v : Int64) (S : St) : shC S (sp_write s i v S).2 (pN s) (sN S) := by
  unfold sp_write
  repeat' split
  all_goals first | exact shC.no S (sN S) _ _ | exact shC.bz S (sF S) _ _
theorem shC_copy (s a t b n : Int32) (S : St) : shC S (sp_copy s a t b n S).2 (pN t) (sN S) := by
  unfold sp_copy
  repeat' split
  all_goals first | exact shC.no S (sN S) _ _ | exact shC.bz S (sF S) _ _
theorem shC_lays (s : Int32) (S : St) : ∃ σ, shC S (sp_lays s S).2 (pN s) σ := by
  unfold sp_lays
  repeat' split
  all_goals exact ⟨_, shC.no S _ _ _⟩
theorem shC_book (s : Int32) (S : St) : shC S (sp_book s S).2 (pN s) (sN S) := by
  unfold sp_book
  repeat' split
  all_goals first | exact shC.no S (sN S) _ _ | exact shC.bz S (sF S) _ _
theorem shC_read (s p : Int32) (S : St) : shC S (sp_read s p S).2 (pN s) (sN S) := by
  unfold sp_read
  repeat' split
  all_goals exact shC.no S (sN S) _ _
theorem inI_n {s : Int32} (h : inI s 0 3 = false) : ¬ inI s 0 3 = true := by rw [h]; decide
/-! ## the invariant -/
def InN (σ : Nu) : Prop := Inv σ ∧ dyN σ ≤ 9999 ∧ ∀ q, 0 ≤ (σ 3 q).toInt ∧ (σ 3 q).toInt ≤ 99
def InS (S : St) : Prop := InN (sN S) ∧ InN (sK S) ∧ okT (sT S) ∧ sL S ≤ 120 ∧ ∀ k, sZ S k ≤ 40
theorem InS.F {S : St} (h : InS S) (f : Nat → Int32) : InS (stF S f) := h
theorem InS.N {S : St} (h : InS S) {σ : Nu} (g : InN σ) : InS (stN S σ) := ⟨g, h.2⟩
theorem InS.bad {S : St} (h : InS S) (k : Nat) : InS (bad S k).2 := h
theorem InN.up {σ : Nu} (h : InN σ) (a p : Nat) (v : Int32) (ha : a = 1 ∨ a = 2 ∨ a = 5) : InN (up2 σ a p v) := by
  refine ⟨inv_upx h.1 a p v (by omega), ?_, ?_⟩
  · rcases ha with rfl | rfl | rfl <;> exact h.2.1
  · rcases ha with rfl | rfl | rfl <;> exact h.2.2
theorem InN.up3 {σ : Nu} (h : InN σ) (p : Nat) {v : Int32} (hv : 0 ≤ v.toInt ∧ v.toInt ≤ 99) : InN (up2 σ 3 p v) := by
  refine ⟨inv_upx h.1 3 p v (by omega), h.2.1, fun q => ?_⟩
  show 0 ≤ (upd (σ 3) p v q).toInt ∧ (upd (σ 3) p v q).toInt ≤ 99
  unfold upd
  split
  · exact hv
  · exact h.2.2 q
theorem InN.up6 {σ : Nu} (h : InN σ) (p : Nat) {v : Int32} (hv : 0 ≤ v.toInt ∧ v.toInt ≤ 99) : InN (up2 σ 6 p v) := ⟨inv_up6 h.1 p hv, h.2.1, h.2.2⟩
theorem InN.up4 {σ : Nu} (h : InN σ) (p : Nat) {v : Int32} (hv : 0 ≤ v.toInt ∧ v.toInt ≤ 9999) : InN (up2 σ 4 p v) := by
  refine ⟨⟨h.1.1, h.1.2.1, h.1.2.2.1, h.1.2.2.2.1, fun q => ?_, h.1.2.2.2.2.2⟩, h.2.1, h.2.2⟩
  show 0 ≤ (upd (σ 4) p v q).toInt ∧ (upd (σ 4) p v q).toInt ≤ 9999
  unfold upd
  split
  · exact hv
  · exact h.1.2.2.2.2.1 q
theorem InN.upw {σ : Nu} (h : InN σ) {v : Int32} (hv : 0 ≤ v.toInt ∧ v.toInt ≤ 99) : InN (up2 σ 0 1 v) := ⟨inv_upw h.1 hv, h.2.1, h.2.2⟩
theorem InN.add {σ : Nu} (h : InN σ) (hz : szN σ < 8) (k d : Int32) {l : Int32} (hl : 0 ≤ l.toInt ∧ l.toInt ≤ 99) {p : Nat} (hp : p ≤ 99) : InN (addF σ k l d (nI p)) := by
  refine ⟨inv_addF h.1 hz k l d hp, h.2.1, fun q => ?_⟩
  show 0 ≤ (upd (σ 3) (szN σ) l q).toInt ∧ (upd (σ 3) (szN σ) l q).toInt ≤ 99
  unfold upd
  split
  · exact hl
  · exact h.2.2 q
theorem inI_ti {v lo hi : Int32} (h : inI v lo hi = true) : lo.toInt ≤ v.toInt ∧ v.toInt ≤ hi.toInt := by
  have := inI_t h
  rw [fa_le, fa_le] at this
  exact this
theorem up2_r {σ : Nu} {a k b : Nat} {v : Int32} (h : b ≠ a) : up2 σ a k v b = σ b := if_neg h
/-- a row other than the four numbers, points and days put off stays as days go -/
theorem row_off (σ : Nu) (a : Nat) (ha : a ≠ 6) : ∀ k, offF σ k a = σ a
  | 0 => rfl
  | k + 1 => by rw [offF, up2_r ha]; exact row_off σ a ha k
theorem row_day (σ : Nu) (a : Nat) (ha : a ≠ 0 ∧ a ≠ 4 ∧ a ≠ 6) : dayF σ a = σ a := by
  unfold dayF
  rw [up2_r ha.1, row_off _ a ha.2.2]
  have h1 : ∀ τ : Nu, holF τ a = τ a := fun τ => by
    unfold holF
    split
    · rw [up2_r ha.1]
    · rfl
  rw [h1]
  unfold tireF
  cases loud σ with
  | none => show up2 σ 0 1 _ a = _; rw [up2_r ha.1]
  | some p =>
    show playF σ p a = _
    unfold playF
    split
    · rw [up2_r ha.1, up2_r ha.1, up2_r ha.2.1]
    · rw [up2_r ha.1, up2_r ha.2.1]
theorem row_days (σ : Nu) (a : Nat) (ha : a ≠ 0 ∧ a ≠ 4 ∧ a ≠ 6) : ∀ n, daysF σ n a = σ a
  | 0 => rfl
  | n + 1 => by rw [daysF, row_day _ a ha, row_days σ a ha n]
