/-! What each call leaves as it was, and that the invariant stays. -/
theorem kp_weary (v : Int32) (S : St) : sK (sp_weary v S).2 = sK S ∧ sP (sp_weary v S).2 = sP S ∧ sT (sp_weary v S).2 = sT S ∧ sL (sp_weary v S).2 = sL S ∧ sB (sp_weary v S).2 = sB S ∧ sZ (sp_weary v S).2 = sZ S ∧ sC (sp_weary v S).2 = sC S := by
  unfold sp_weary
  repeat' split
  all_goals exact ⟨rfl, rfl, rfl, rfl, rfl, rfl, rfl⟩
theorem kp_free (pl v : Int32) (S : St) : sK (sp_free pl v S).2 = sK S ∧ sP (sp_free pl v S).2 = sP S ∧ sT (sp_free pl v S).2 = sT S ∧ sL (sp_free pl v S).2 = sL S ∧ sB (sp_free pl v S).2 = sB S ∧ sZ (sp_free pl v S).2 = sZ S ∧ sC (sp_free pl v S).2 = sC S := by
  unfold sp_free
  repeat' split
  all_goals exact ⟨rfl, rfl, rfl, rfl, rfl, rfl, rfl⟩
theorem kp_now (w : Int32) (S : St) : sK (sp_now w S).2 = sK S ∧ sP (sp_now w S).2 = sP S ∧ sT (sp_now w S).2 = sT S ∧ sL (sp_now w S).2 = sL S ∧ sB (sp_now w S).2 = sB S ∧ sZ (sp_now w S).2 = sZ S ∧ sC (sp_now w S).2 = sC S := by
  unfold sp_now
  repeat' split
  all_goals exact ⟨rfl, rfl, rfl, rfl, rfl, rfl, rfl⟩
theorem is_now (w : Int32) {S : St} (h : InS S) : InS (sp_now w S).2 := by
  unfold sp_now
  repeat' split
  all_goals exact h
theorem kp_part (k d : Int32) (S : St) : sK (sp_part k d S).2 = sK S ∧ sP (sp_part k d S).2 = sP S ∧ sT (sp_part k d S).2 = sT S ∧ sL (sp_part k d S).2 = sL S ∧ sB (sp_part k d S).2 = sB S ∧ sZ (sp_part k d S).2 = sZ S ∧ sC (sp_part k d S).2 = sC S := by
  unfold sp_part
  repeat' split
  all_goals exact ⟨rfl, rfl, rfl, rfl, rfl, rfl, rfl⟩
theorem kp_of (p w : Int32) (S : St) : sK (sp_of p w S).2 = sK S ∧ sP (sp_of p w S).2 = sP S ∧ sT (sp_of p w S).2 = sT S ∧ sL (sp_of p w S).2 = sL S ∧ sB (sp_of p w S).2 = sB S ∧ sZ (sp_of p w S).2 = sZ S ∧ sC (sp_of p w S).2 = sC S := by
  unfold sp_of
  repeat' split
  all_goals exact ⟨rfl, rfl, rfl, rfl, rfl, rfl, rfl⟩
theorem is_of (p w : Int32) {S : St} (h : InS S) : InS (sp_of p w S).2 := by
  unfold sp_of
  repeat' split
  all_goals exact h
theorem kp_set (p w v : Int32) (S : St) : sK (sp_set p w v S).2 = sK S ∧ sP (sp_set p w v S).2 = sP S ∧ sT (sp_set p w v S).2 = sT S ∧ sL (sp_set p w v S).2 = sL S ∧ sB (sp_set p w v S).2 = sB S ∧ sZ (sp_set p w v S).2 = sZ S ∧ sC (sp_set p w v S).2 = sC S := by
  unfold sp_set
  repeat' split
  all_goals exact ⟨rfl, rfl, rfl, rfl, rfl, rfl, rfl⟩
theorem kp_turn (p k : Int32) (S : St) : sK (sp_turn p k S).2 = sK S ∧ sP (sp_turn p k S).2 = sP S ∧ sT (sp_turn p k S).2 = sT S ∧ sL (sp_turn p k S).2 = sL S ∧ sB (sp_turn p k S).2 = sB S ∧ sZ (sp_turn p k S).2 = sZ S ∧ sC (sp_turn p k S).2 = sC S := by
  unfold sp_turn
  repeat' split
  all_goals exact ⟨rfl, rfl, rfl, rfl, rfl, rfl, rfl⟩
theorem kp_as (p k : Int32) (S : St) : sK (sp_as p k S).2 = sK S ∧ sP (sp_as p k S).2 = sP S ∧ sT (sp_as p k S).2 = sT S ∧ sL (sp_as p k S).2 = sL S ∧ sB (sp_as p k S).2 = sB S ∧ sZ (sp_as p k S).2 = sZ S ∧ sC (sp_as p k S).2 = sC S := by
  unfold sp_as
  repeat' split
  all_goals exact ⟨rfl, rfl, rfl, rfl, rfl, rfl, rfl⟩
theorem is_as (p k : Int32) {S : St} (h : InS S) : InS (sp_as p k S).2 := by
  unfold sp_as
  repeat' split
  all_goals exact h
theorem kp_left (p : Int32) (S : St) : sK (sp_left p S).2 = sK S ∧ sP (sp_left p S).2 = sP S ∧ sT (sp_left p S).2 = sT S ∧ sL (sp_left p S).2 = sL S ∧ sB (sp_left p S).2 = sB S ∧ sZ (sp_left p S).2 = sZ S ∧ sC (sp_left p S).2 = sC S := by
  unfold sp_left
  repeat' split
  all_goals exact ⟨rfl, rfl, rfl, rfl, rfl, rfl, rfl⟩
theorem is_left (p : Int32) {S : St} (h : InS S) : InS (sp_left p S).2 := by
  unfold sp_left
  repeat' split
  all_goals exact h
theorem kp_days (n : Int32) (S : St) : sK (sp_days n S).2 = sK S ∧ sP (sp_days n S).2 = sP S ∧ sT (sp_days n S).2 = sT S ∧ sL (sp_days n S).2 = sL S ∧ sB (sp_days n S).2 = sB S ∧ sZ (sp_days n S).2 = sZ S ∧ sC (sp_days n S).2 = sC S := by
  unfold sp_days
  repeat' split
  all_goals exact ⟨rfl, rfl, rfl, rfl, rfl, rfl, rfl⟩
theorem kp_on (p n w : Int32) (S : St) : sK (sp_on p n w S).2 = sK S ∧ sP (sp_on p n w S).2 = sP S ∧ sT (sp_on p n w S).2 = sT S ∧ sL (sp_on p n w S).2 = sL S ∧ sB (sp_on p n w S).2 = sB S ∧ sZ (sp_on p n w S).2 = sZ S ∧ sC (sp_on p n w S).2 = sC S := by
  unfold sp_on
  repeat' split
  all_goals exact ⟨rfl, rfl, rfl, rfl, rfl, rfl, rfl⟩
theorem is_on (p n w : Int32) {S : St} (h : InS S) : InS (sp_on p n w S).2 := by
  unfold sp_on
  repeat' split
  all_goals exact h
theorem kp_then (n w : Int32) (S : St) : sK (sp_then n w S).2 = sK S ∧ sP (sp_then n w S).2 = sP S ∧ sT (sp_then n w S).2 = sT S ∧ sL (sp_then n w S).2 = sL S ∧ sB (sp_then n w S).2 = sB S ∧ sZ (sp_then n w S).2 = sZ S ∧ sC (sp_then n w S).2 = sC S := by
  unfold sp_then
  repeat' split
  all_goals exact ⟨rfl, rfl, rfl, rfl, rfl, rfl, rfl⟩
theorem is_then (n w : Int32) {S : St} (h : InS S) : InS (sp_then n w S).2 := by
  unfold sp_then
  repeat' split
  all_goals exact h
theorem kp_done (p : Int32) (S : St) : sK (sp_done p S).2 = sK S ∧ sP (sp_done p S).2 = sP S ∧ sT (sp_done p S).2 = sT S ∧ sL (sp_done p S).2 = sL S ∧ sB (sp_done p S).2 = sB S ∧ sZ (sp_done p S).2 = sZ S ∧ sC (sp_done p S).2 = sC S := by
  unfold sp_done
  unfold orN
  repeat' split
  all_goals exact ⟨rfl, rfl, rfl, rfl, rfl, rfl, rfl⟩
theorem is_done (p : Int32) {S : St} (h : InS S) : InS (sp_done p S).2 := by
  unfold sp_done
  unfold orN
  repeat' split
  all_goals exact h
theorem kp_all (S : St) : sK (sp_all S).2 = sK S ∧ sP (sp_all S).2 = sP S ∧ sT (sp_all S).2 = sT S ∧ sL (sp_all S).2 = sL S ∧ sB (sp_all S).2 = sB S ∧ sZ (sp_all S).2 = sZ S ∧ sC (sp_all S).2 = sC S := by
  unfold sp_all
  unfold orN
  repeat' split
  all_goals exact ⟨rfl, rfl, rfl, rfl, rfl, rfl, rfl⟩
theorem is_all {S : St} (h : InS S) : InS (sp_all S).2 := by
  unfold sp_all
  unfold orN
  repeat' split
  all_goals exact h
theorem kp_played (p : Int32) (S : St) : sK (sp_played p S).2 = sK S ∧ sP (sp_played p S).2 = sP S ∧ sT (sp_played p S).2 = sT S ∧ sL (sp_played p S).2 = sL S ∧ sB (sp_played p S).2 = sB S ∧ sZ (sp_played p S).2 = sZ S ∧ sC (sp_played p S).2 = sC S := by
  unfold sp_played
  unfold orN
  repeat' split
  all_goals exact ⟨rfl, rfl, rfl, rfl, rfl, rfl, rfl⟩
theorem is_played (p : Int32) {S : St} (h : InS S) : InS (sp_played p S).2 := by
  unfold sp_played
  unfold orN
  repeat' split
  all_goals exact h
theorem kp_later (n : Int32) (S : St) : sK (sp_later n S).2 = sK S ∧ sP (sp_later n S).2 = sP S ∧ sT (sp_later n S).2 = sT S ∧ sL (sp_later n S).2 = sL S ∧ sB (sp_later n S).2 = sB S ∧ sZ (sp_later n S).2 = sZ S ∧ sC (sp_later n S).2 = sC S := by
  unfold sp_later sp_laterM orB
  repeat' split
  all_goals exact ⟨rfl, rfl, rfl, rfl, rfl, rfl, rfl⟩
theorem is_later (n : Int32) {S : St} (h : InS S) : InS (sp_later n S).2 := by
  unfold sp_later sp_laterM orB
  repeat' split
  all_goals exact h
theorem kp_kind (p : Int32) (S : St) : sK (sp_kind p S).2 = sK S ∧ sP (sp_kind p S).2 = sP S ∧ sT (sp_kind p S).2 = sT S ∧ sL (sp_kind p S).2 = sL S ∧ sB (sp_kind p S).2 = sB S ∧ sZ (sp_kind p S).2 = sZ S ∧ sC (sp_kind p S).2 = sC S := by
  unfold sp_kind orB
  repeat' split
  all_goals exact ⟨rfl, rfl, rfl, rfl, rfl, rfl, rfl⟩
theorem is_kind (p : Int32) {S : St} (h : InS S) : InS (sp_kind p S).2 := by
  unfold sp_kind orB
  repeat' split
  all_goals exact h
theorem kp_bears (n : Int32) (S : St) : sK (sp_bears n S).2 = sK S ∧ sP (sp_bears n S).2 = sP S ∧ sT (sp_bears n S).2 = sT S ∧ sL (sp_bears n S).2 = sL S ∧ sB (sp_bears n S).2 = sB S ∧ sZ (sp_bears n S).2 = sZ S ∧ sC (sp_bears n S).2 = sC S := by
  unfold sp_bears orB
  repeat' split
  all_goals exact ⟨rfl, rfl, rfl, rfl, rfl, rfl, rfl⟩
theorem is_bears (n : Int32) {S : St} (h : InS S) : InS (sp_bears n S).2 := by
  unfold sp_bears orB
  repeat' split
  all_goals exact h
theorem kp_holiday (S : St) : sK (sp_holiday S).2 = sK S ∧ sP (sp_holiday S).2 = sP S ∧ sT (sp_holiday S).2 = sT S ∧ sL (sp_holiday S).2 = sL S ∧ sB (sp_holiday S).2 = sB S ∧ sZ (sp_holiday S).2 = sZ S ∧ sC (sp_holiday S).2 = sC S := by
  unfold sp_holiday orB
  repeat' split
  all_goals exact ⟨rfl, rfl, rfl, rfl, rfl, rfl, rfl⟩
theorem is_holiday {S : St} (h : InS S) : InS (sp_holiday S).2 := by
  unfold sp_holiday orB
  repeat' split
  all_goals exact h
theorem kp_last (S : St) : sK (sp_last S).2 = sK S ∧ sP (sp_last S).2 = sP S ∧ sT (sp_last S).2 = sT S ∧ sL (sp_last S).2 = sL S ∧ sB (sp_last S).2 = sB S ∧ sZ (sp_last S).2 = sZ S ∧ sC (sp_last S).2 = sC S := by
  unfold sp_last orB
  repeat' split
  all_goals exact ⟨rfl, rfl, rfl, rfl, rfl, rfl, rfl⟩
theorem is_last {S : St} (h : InS S) : InS (sp_last S).2 := by
  unfold sp_last orB
  repeat' split
  all_goals exact h
theorem kp_longest (p : Int32) (S : St) : sK (sp_longest p S).2 = sK S ∧ sP (sp_longest p S).2 = sP S ∧ sT (sp_longest p S).2 = sT S ∧ sL (sp_longest p S).2 = sL S ∧ sB (sp_longest p S).2 = sB S ∧ sZ (sp_longest p S).2 = sZ S ∧ sC (sp_longest p S).2 = sC S := by
  unfold sp_longest orB
  repeat' split
  all_goals exact ⟨rfl, rfl, rfl, rfl, rfl, rfl, rfl⟩
theorem is_longest (p : Int32) {S : St} (h : InS S) : InS (sp_longest p S).2 := by
  unfold sp_longest orB
  repeat' split
  all_goals exact h
theorem kp_due (p : Int32) (S : St) : sK (sp_due p S).2 = sK S ∧ sP (sp_due p S).2 = sP S ∧ sT (sp_due p S).2 = sT S ∧ sL (sp_due p S).2 = sL S ∧ sB (sp_due p S).2 = sB S ∧ sZ (sp_due p S).2 = sZ S ∧ sC (sp_due p S).2 = sC S := by
  unfold sp_due orB
  repeat' split
  all_goals exact ⟨rfl, rfl, rfl, rfl, rfl, rfl, rfl⟩
theorem is_due (p : Int32) {S : St} (h : InS S) : InS (sp_due p S).2 := by
  unfold sp_due orB
  repeat' split
  all_goals exact h
theorem kp_count (w : Int32) (S : St) : sK (sp_count w S).2 = sK S ∧ sP (sp_count w S).2 = sP S ∧ sT (sp_count w S).2 = sT S ∧ sL (sp_count w S).2 = sL S ∧ sB (sp_count w S).2 = sB S ∧ sZ (sp_count w S).2 = sZ S ∧ sC (sp_count w S).2 = sC S := by
  unfold sp_count
  repeat' split
  all_goals exact ⟨rfl, rfl, rfl, rfl, rfl, rfl, rfl⟩
theorem is_count (w : Int32) {S : St} (h : InS S) : InS (sp_count w S).2 := by
  unfold sp_count
  repeat' split
  all_goals exact h
theorem kp_status (w : Int32) (S : St) : sK (sp_status w S).2 = sK S ∧ sP (sp_status w S).2 = sP S ∧ sT (sp_status w S).2 = sT S ∧ sL (sp_status w S).2 = sL S ∧ sB (sp_status w S).2 = sB S ∧ sZ (sp_status w S).2 = sZ S ∧ sC (sp_status w S).2 = sC S := by
  unfold sp_status
  repeat' split
  all_goals exact ⟨rfl, rfl, rfl, rfl, rfl, rfl, rfl⟩
theorem is_status (w : Int32) {S : St} (h : InS S) : InS (sp_status w S).2 := by
  unfold sp_status
  repeat' split
  all_goals exact h
theorem is_weary (v : Int32) {S : St} (h : InS S) : InS (sp_weary v S).2 := by
  unfold sp_weary
  split
  · rename_i q
    exact h.N (h.1.upw (inI_ti q))
  · exact h
theorem is_free (pl v : Int32) {S : St} (h : InS S) : InS (sp_free pl v S).2 := by
  unfold sp_free
  repeat' split
  · exact h.N (h.1.up 1 _ _ (by omega))
  · exact h
  · exact h
theorem is_part (k d : Int32) {S : St} (h : InS S) : InS (sp_part k d S).2 := by
  unfold sp_part
  repeat' split
  · exact h
  · rename_i q
    exact h.N (h.1.add (by have := h.1.1.sz8; omega) k d (by decide) (p := 0) (by omega))
  · exact h
  · exact h
theorem is_set (p w v : Int32) {S : St} (h : InS S) : InS (sp_set p w v S).2 := by
  unfold sp_set
  repeat' split
  all_goals first | exact h | (rename_i q; first | exact h.N (h.1.up3 _ ⟨Int.le_trans (by decide) (inI_ti q).1, (inI_ti q).2⟩) | exact h.N (h.1.up4 _ (inI_ti q)) | exact h.N (h.1.up 5 _ _ (by omega)) | exact h.N (h.1.up6 _ (inI_ti q)))
theorem is_turn (p k : Int32) {S : St} (h : InS S) : InS (sp_turn p k S).2 := by
  unfold sp_turn
  repeat' split
  · exact h.N (h.1.up 2 _ _ (by omega))
  · exact h
  · exact h
theorem is_days (n : Int32) {S : St} (h : InS S) : InS (sp_days n S).2 := by
  unfold sp_days
  split
  · rename_i q
    split
    · exact h
    · rename_i q2
      obtain ⟨k, h1, h2, rfl⟩ := in_c (L := 1) (M := 100) (a := 1) (m := 100) rfl rfl q
      have e : pN (nI k) = k := nI_clamp (by omega)
      have hd := h.1.2.1
      rw [h.1.1.dy, nI_add] at q2
      have q3 : ¬ 9999 < dyN (sN S) + k := mt (nI_ltI (a := 9999) (by omega) (by omega)).mpr q2
      have g := inv_daysF h.1.1 k (by omega)
      refine h.N ?_
      rw [e]
      refine ⟨g.1, by rw [g.2]; omega, fun r => ?_⟩
      rw [row_days _ 3 ⟨by decide, by decide, by decide⟩ k]
      exact h.1.2.2 r
  · exact h
theorem kp_wipe (S : St) : sN (sp_wipe S).2 = sN S ∧ sK (sp_wipe S).2 = sK S ∧ sP (sp_wipe S).2 = sP S ∧ sF (sp_wipe S).2 = sF S ∧ sT (sp_wipe S).2 = sT S ∧ sB (sp_wipe S).2 = sB S ∧ sZ (sp_wipe S).2 = sZ S ∧ sC (sp_wipe S).2 = sC S := ⟨rfl, rfl, rfl, rfl, rfl, rfl, rfl, rfl⟩
theorem is_wipe {S : St} (h : InS S) : InS (sp_wipe S).2 := ⟨h.1, h.2.1, h.2.2.1, Nat.zero_le _, h.2.2.2.2⟩
theorem kp_image (S : St) : sN (sp_image S).2 = sN S ∧ sF (sp_image S).2 = sF S ∧ sT (sp_image S).2 = sT S ∧ sL (sp_image S).2 = sL S ∧ sB (sp_image S).2 = sB S ∧ sZ (sp_image S).2 = sZ S ∧ sC (sp_image S).2 = sC S := ⟨rfl, rfl, rfl, rfl, rfl, rfl, rfl⟩
theorem is_image {S : St} (h : InS S) : InS (sp_image S).2 := ⟨h.1, h.1, h.2.2⟩
theorem kp_undo (S : St) : sK (sp_undo S).2 = sK S ∧ sP (sp_undo S).2 = sP S ∧ sT (sp_undo S).2 = sT S ∧ sL (sp_undo S).2 = sL S ∧ sB (sp_undo S).2 = sB S ∧ sZ (sp_undo S).2 = sZ S ∧ sC (sp_undo S).2 = sC S := by
  unfold sp_undo
  split
  all_goals exact ⟨rfl, rfl, rfl, rfl, rfl, rfl, rfl⟩
theorem is_undo {S : St} (h : InS S) : InS (sp_undo S).2 := by
  unfold sp_undo
  split
  · exact h.N h.2.1
  · exact h
theorem kp_tear (S : St) : sN (sp_tear S).2 = sN S ∧ sK (sp_tear S).2 = sK S ∧ sF (sp_tear S).2 = sF S ∧ sT (sp_tear S).2 = sT S ∧ sL (sp_tear S).2 = sL S ∧ sB (sp_tear S).2 = sB S ∧ sZ (sp_tear S).2 = sZ S ∧ sC (sp_tear S).2 = sC S := ⟨rfl, rfl, rfl, rfl, rfl, rfl, rfl, rfl⟩
theorem is_tear {S : St} (h : InS S) : InS (sp_tear S).2 := h
theorem kp_feed (b n : Int32) (S : St) : sN (sp_feed b n S).2 = sN S ∧ sK (sp_feed b n S).2 = sK S ∧ sP (sp_feed b n S).2 = sP S ∧ sB (sp_feed b n S).2 = sB S ∧ sZ (sp_feed b n S).2 = sZ S ∧ sC (sp_feed b n S).2 = sC S := by
  unfold sp_feed
  repeat' split
  all_goals exact ⟨rfl, rfl, rfl, rfl, rfl, rfl⟩
theorem and_255 (x : Int32) : ∃ m : Nat, m < 256 ∧ x &&& 255 = nI m := by
  refine ⟨(x &&& 255).toBitVec.toNat, ?_, ?_⟩
  · rw [Int32.toBitVec_and, BitVec.toNat_and]
    exact Nat.lt_of_le_of_lt Nat.and_le_right (by decide)
  · apply Int32.toBitVec_inj.mp
    show _ = BitVec.ofNat 32 _
    rw [BitVec.ofNat_toNat, BitVec.setWidth_eq]
theorem okT_fd {t : TF} (h : okT t) (L : Nat) (b : Int32) (n : Nat) : ∀ j, okT (fdT t L b n j)
  | 0 => h
  | j + 1 => fun k => by
    show ∃ m : Nat, m < 256 ∧ upd (fdT t L b n j) (L + j) _ k = nI m
    unfold upd
    split
    · exact and_255 _
    · exact okT_fd h L b n j k
theorem is_feed (b n : Int32) {S : St} (h : InS S) : InS (sp_feed b n S).2 := by
  unfold sp_feed
  split
  · rename_i q
    split
    · exact h
    · rename_i q2
      obtain ⟨k, h1, h2, rfl⟩ := in_c (L := 1) (M := 4) (a := 1) (m := 4) rfl rfl q
      have e : pN (nI k) = k := nI_clamp (by omega)
      have hL := h.2.2.2.1
      rw [nI_add] at q2
      have q3 : ¬ 120 < sL S + k := mt (nI_ltI (a := 120) (by omega) (by omega)).mpr q2
      rw [e]
      exact ⟨h.1, h.2.1, okT_fd h.2.2.1 _ _ _ _, by show sL S + k ≤ 120; omega, h.2.2.2.2⟩
  · exact h
theorem kp_nursery (S : St) : sK (sp_nursery S).2 = sK S ∧ sP (sp_nursery S).2 = sP S ∧ sF (sp_nursery S).2 = sF S ∧ sB (sp_nursery S).2 = sB S ∧ sZ (sp_nursery S).2 = sZ S ∧ sC (sp_nursery S).2 = sC S := ⟨rfl, rfl, rfl, rfl, rfl, rfl⟩
theorem InN_pIt {t : TF} {n : Nat} {r : RT} {σ : Nu} (k : Int32) (h : InN σ) : InN (pIt t n r σ k).2.2 := by
  unfold pIt
  split
  · exact h
  · rename_i hz
    split
    · unfold pIt1
      split
      · unfold pIt2
        split
        · exact h.add (by have := h.1.sz8; omega) _ _ (nI_99 (opR_so (t := t) (n := n) (r := nx t n (nx t n r)) (w := 6) (lo := 1) (hi := 99) (so := 10) (by omega)).2) (opR_so (by omega)).2
        · exact h
      · exact h
    · exact h
theorem InN_it {t : TF} {n : Nat} {r : RT} {σ : Nu} (h : InN σ) : InN (iIt t n r σ).2.2 := by
  unfold iIt
  split
  · exact InN_pIt _ h
  · have dd : ∀ x : Int32, InN (dIt t n r σ x).2.2 := by
      intro x
      unfold dIt
      split
      · exact h.up 1 _ x (by omega)
      · exact h
    split
    · exact dd 1
    · split
      · exact dd 0
      · split
        · unfold wIt
          split
          · rename_i g
            exact h.upw (nI_99 (nOk_t g).2.2)
          · exact h
        · exact h
theorem InN_tx {t : TF} {n : Nat} {σ0 : Nu} (h0 : InN σ0) : ∀ f i r σ, InN σ → InN (txT t n σ0 f i r σ).2
  | 0, i, r, σ, h => by
    rw [txT]
    split
    · exact InN_it h
    · exact h0
  | f + 1, i, r, σ, h => by
    rw [txT]
    split
    · exact InN_it h
    · split
      · exact InN_tx h0 f _ _ _ (InN_it h)
      · exact h0
theorem is_nursery {S : St} (h : InS S) : InS (sp_nursery S).2 := ⟨InN_tx h.1 _ _ _ _ h.1, h.2.1, h.2.2.1, Nat.zero_le _, h.2.2.2.2⟩
theorem kp_sh {S S' : St} {k : Nat} {σ : Nu} (h : shC S S' k σ) : sK S' = sK S ∧ sP S' = sP S ∧ sT S' = sT S ∧ sL S' = sL S := by
  obtain ⟨f, b, z, c, rfl⟩ := h
  exact ⟨rfl, rfl, rfl, rfl⟩
theorem layF_in {c : Nat → Int64} {σ : Nu} (h : InN σ) : ∀ k, InN (layF c σ k).2
  | 0 => h
  | k + 1 => by
    cases e : inL (c k) 0 9999 with
    | true => rw [layF_t e]; exact (layF_in h k).up 5 _ _ (by omega)
    | false => rw [layF_f e]; exact layF_in h k
theorem uA_le {z : Nat → Nat} (h : ∀ k, z k ≤ 40) {j n : Nat} (hn : n ≤ 40) : ∀ k, uA z j n k ≤ 40 := fun k => by
  unfold uA
  split
  · exact hn
  · exact h k
theorem is_sheet (s b n : Int32) {S : St} (h : InS S) : InS (sp_sheet s b n S).2 := by
  unfold sp_sheet
  repeat' split
  all_goals first | exact h | skip
  all_goals
    refine ⟨h.1, h.2.1, h.2.2.1, h.2.2.2.1, uA_le h.2.2.2.2 ?_⟩
    rename_i q1 q2
    first
    | exact Nat.zero_le _
    | (have h0 : 0 ≤ n := Int32.not_lt.mp (by assumption)
       have h1 : n ≤ 40 := Int32.not_lt.mp (by assumption)
       obtain ⟨m, hm, rfl⟩ := mx_n2 h0 h1
       rw [show pN (nI m) = m from nI_clamp (by omega)]
       first | exact hm | (split <;> omega))
theorem is_write (s i : Int32) (v : Int64) {S : St} (h : InS S) : InS (sp_write s i v S).2 := by
  unfold sp_write
  repeat' split
  all_goals exact h
theorem is_copy (s a t b n : Int32) {S : St} (h : InS S) : InS (sp_copy s a t b n S).2 := by
  unfold sp_copy
  repeat' split
  all_goals exact h
theorem is_lays (s : Int32) {S : St} (h : InS S) : InS (sp_lays s S).2 := by
  unfold sp_lays
  repeat' split
  · exact h
  · exact h.N (layF_in h.1 _)
  · exact h
theorem is_book (s : Int32) {S : St} (h : InS S) : InS (sp_book s S).2 := by
  unfold sp_book
  repeat' split
  all_goals exact h
theorem is_read (s p : Int32) {S : St} (h : InS S) : InS (sp_read s p S).2 := by
  unfold sp_read
  repeat' split
  all_goals exact h
