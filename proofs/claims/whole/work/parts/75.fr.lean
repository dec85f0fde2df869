set_option maxRecDepth 100000 in
set_option maxHeartbeats 4000000 in
theorem a_X5_sheet (l : Launch) (G : pG) (o : Nat) (ax : Nat → Nat) (qh qt sh nh : Nat → Nat) (S : St) (τ : Nu) (h : InS S) (s : Int32) (b n : Int32) : KI l G yX5_sheet wsX5_sheet ({ frames := 2, cells := 0, slots := 0, locals := 44 } : Room) [.ref o, .int s, .int b, .int n] (wXO o ax (sP S) ++ ([((ax 7), .inl (gI G, 7, .inl (sF S)))] ++ ([((ax 6), .inl (gS G, 4, .inr (.inr (.inr (.inr (fun j => some (sh j)))))))] ++ (wN G (ax 1) qh (sN S) ++ (wN G (ax 2) qt τ ++ (wSH (sh 0) (nh 0) (sB S 0) (nI (sZ S 0)) ++ ([((nh 0), .inl (gJ G, 40, .inr (.inl (sC S 0))))] ++ (wSH (sh 1) (nh 1) (sB S 1) (nI (sZ S 1)) ++ ([((nh 1), .inl (gJ G, 40, .inr (.inl (sC S 1))))] ++ (wSH (sh 2) (nh 2) (sB S 2) (nI (sZ S 2)) ++ ([((nh 2), .inl (gJ G, 40, .inr (.inl (sC S 2))))] ++ (wSH (sh 3) (nh 3) (sB S 3) (nI (sZ S 3)) ++ [((nh 3), .inl (gJ G, 40, .inr (.inl (sC S 3))))])))))))))))) (S := Nu) (fun _ => True) (fun _ => (sp_sheet s b n S).1) (fun u => wXO o ax (sP S) ++ ([((ax 7), .inl (gI G, 7, .inl (sF (sp_sheet s b n S).2)))] ++ ([((ax 6), .inl (gS G, 4, .inr (.inr (.inr (.inr (fun j => some (sh j)))))))] ++ (wN G (ax 1) qh (sN (sp_sheet s b n S).2) ++ (wN G (ax 2) qt u ++ (wSH (sh 0) (nh 0) (sB (sp_sheet s b n S).2 0) (nI (sZ (sp_sheet s b n S).2 0)) ++ ([((nh 0), .inl (gJ G, 40, .inr (.inl (sC (sp_sheet s b n S).2 0))))] ++ (wSH (sh 1) (nh 1) (sB (sp_sheet s b n S).2 1) (nI (sZ (sp_sheet s b n S).2 1)) ++ ([((nh 1), .inl (gJ G, 40, .inr (.inl (sC (sp_sheet s b n S).2 1))))] ++ (wSH (sh 2) (nh 2) (sB (sp_sheet s b n S).2 2) (nI (sZ (sp_sheet s b n S).2 2)) ++ ([((nh 2), .inl (gJ G, 40, .inr (.inl (sC (sp_sheet s b n S).2 2))))] ++ (wSH (sh 3) (nh 3) (sB (sp_sheet s b n S).2 3) (nI (sZ (sp_sheet s b n S).2 3)) ++ [((nh 3), .inl (gJ G, 40, .inr (.inl (sC (sp_sheet s b n S).2 3))))])))))))))))) := by
  have hS := shC_sheet s b n S
  cases hv : inI s 0 3 with
  | false =>
    have e : (sp_sheet s b n S).2 = fnd S 0 := by unfold sp_sheet; rw [if_neg (inI_n hv)]; rfl
    exact ki_frame (c_X5_sheet_f l G o ax sh S s b n hv) [0, 1, 2] rfl (by decide) (fun _ => τ) (fun _ _ => trivial) (fun _ _ => rfl) (fun _ _ => by rw [e] <;> rfl) (fun _ => rfl)
  | true =>
    rcases s_k hv with rfl | rfl | rfl | rfl
    · obtain ⟨σ9, f9, b9, z9, c9, e⟩ := hS
      rw [pN_0] at e
      exact ki_frame (c_X5_sheet_t l G o ax sh nh 0 (by decide) S b n) [0, 1, 2, 17, 18] rfl (by decide) (fun _ => τ) (fun _ _ => trivial) (fun _ _ => rfl) (fun u _ => by rw [e] <;> rfl) (fun _ => rfl)
    · obtain ⟨σ9, f9, b9, z9, c9, e⟩ := hS
      rw [pN_1] at e
      exact ki_frame (c_X5_sheet_t l G o ax sh nh 1 (by decide) S b n) [0, 1, 2, 19, 20] rfl (by decide) (fun _ => τ) (fun _ _ => trivial) (fun _ _ => rfl) (fun u _ => by rw [e] <;> rfl) (fun _ => rfl)
    · obtain ⟨σ9, f9, b9, z9, c9, e⟩ := hS
      rw [pN_2] at e
      exact ki_frame (c_X5_sheet_t l G o ax sh nh 2 (by decide) S b n) [0, 1, 2, 21, 22] rfl (by decide) (fun _ => τ) (fun _ _ => trivial) (fun _ _ => rfl) (fun u _ => by rw [e] <;> rfl) (fun _ => rfl)
    · obtain ⟨σ9, f9, b9, z9, c9, e⟩ := hS
      rw [pN_3] at e
      exact ki_frame (c_X5_sheet_t l G o ax sh nh 3 (by decide) S b n) [0, 1, 2, 23, 24] rfl (by decide) (fun _ => τ) (fun _ _ => trivial) (fun _ _ => rfl) (fun u _ => by rw [e] <;> rfl) (fun _ => rfl)
set_option maxRecDepth 100000 in
set_option maxHeartbeats 4000000 in
theorem a_X5_write (l : Launch) (G : pG) (o : Nat) (ax : Nat → Nat) (qh qt sh nh : Nat → Nat) (S : St) (τ : Nu) (h : InS S) (s : Int32) (i : Int32) (v : Int64) : KL l G yX5_write wsX5_write ({ frames := 2, cells := 0, slots := 0, locals := 45 } : Room) [.ref o, .int s, .int i, .long (v)] (wXO o ax (sP S) ++ ([((ax 7), .inl (gI G, 7, .inl (sF S)))] ++ ([((ax 6), .inl (gS G, 4, .inr (.inr (.inr (.inr (fun j => some (sh j)))))))] ++ (wN G (ax 1) qh (sN S) ++ (wN G (ax 2) qt τ ++ (wSH (sh 0) (nh 0) (sB S 0) (nI (sZ S 0)) ++ ([((nh 0), .inl (gJ G, 40, .inr (.inl (sC S 0))))] ++ (wSH (sh 1) (nh 1) (sB S 1) (nI (sZ S 1)) ++ ([((nh 1), .inl (gJ G, 40, .inr (.inl (sC S 1))))] ++ (wSH (sh 2) (nh 2) (sB S 2) (nI (sZ S 2)) ++ ([((nh 2), .inl (gJ G, 40, .inr (.inl (sC S 2))))] ++ (wSH (sh 3) (nh 3) (sB S 3) (nI (sZ S 3)) ++ [((nh 3), .inl (gJ G, 40, .inr (.inl (sC S 3))))])))))))))))) (S := Nu) (fun _ => True) (fun _ => (sp_write s i v S).1) (fun u => wXO o ax (sP S) ++ ([((ax 7), .inl (gI G, 7, .inl (sF (sp_write s i v S).2)))] ++ ([((ax 6), .inl (gS G, 4, .inr (.inr (.inr (.inr (fun j => some (sh j)))))))] ++ (wN G (ax 1) qh (sN (sp_write s i v S).2) ++ (wN G (ax 2) qt u ++ (wSH (sh 0) (nh 0) (sB (sp_write s i v S).2 0) (nI (sZ (sp_write s i v S).2 0)) ++ ([((nh 0), .inl (gJ G, 40, .inr (.inl (sC (sp_write s i v S).2 0))))] ++ (wSH (sh 1) (nh 1) (sB (sp_write s i v S).2 1) (nI (sZ (sp_write s i v S).2 1)) ++ ([((nh 1), .inl (gJ G, 40, .inr (.inl (sC (sp_write s i v S).2 1))))] ++ (wSH (sh 2) (nh 2) (sB (sp_write s i v S).2 2) (nI (sZ (sp_write s i v S).2 2)) ++ ([((nh 2), .inl (gJ G, 40, .inr (.inl (sC (sp_write s i v S).2 2))))] ++ (wSH (sh 3) (nh 3) (sB (sp_write s i v S).2 3) (nI (sZ (sp_write s i v S).2 3)) ++ [((nh 3), .inl (gJ G, 40, .inr (.inl (sC (sp_write s i v S).2 3))))])))))))))))) := by
  have hS := shC_write s i v S
  cases hv : inI s 0 3 with
  | false =>
    have e : (sp_write s i v S).2 = fnd S 0 := by unfold sp_write; rw [if_neg (inI_n hv)]; rfl
    exact kl_frame (c_X5_write_f l G o ax sh S s i v hv) [0, 1, 2] rfl (by decide) (fun _ => τ) (fun _ _ => trivial) (fun _ _ => rfl) (fun _ _ => by rw [e] <;> rfl) (fun _ => rfl)
  | true =>
    rcases s_k hv with rfl | rfl | rfl | rfl
    · obtain ⟨σ9, f9, b9, z9, c9, e⟩ := hS
      rw [pN_0] at e
      exact kl_frame (c_X5_write_t l G o ax sh nh 0 (by decide) S (h.2.2.2.2 0) i v) [0, 1, 2, 17, 18] rfl (by decide) (fun _ => τ) (fun _ _ => trivial) (fun _ _ => rfl) (fun u _ => by rw [e] <;> rfl) (fun _ => rfl)
    · obtain ⟨σ9, f9, b9, z9, c9, e⟩ := hS
      rw [pN_1] at e
      exact kl_frame (c_X5_write_t l G o ax sh nh 1 (by decide) S (h.2.2.2.2 1) i v) [0, 1, 2, 19, 20] rfl (by decide) (fun _ => τ) (fun _ _ => trivial) (fun _ _ => rfl) (fun u _ => by rw [e] <;> rfl) (fun _ => rfl)
    · obtain ⟨σ9, f9, b9, z9, c9, e⟩ := hS
      rw [pN_2] at e
      exact kl_frame (c_X5_write_t l G o ax sh nh 2 (by decide) S (h.2.2.2.2 2) i v) [0, 1, 2, 21, 22] rfl (by decide) (fun _ => τ) (fun _ _ => trivial) (fun _ _ => rfl) (fun u _ => by rw [e] <;> rfl) (fun _ => rfl)
    · obtain ⟨σ9, f9, b9, z9, c9, e⟩ := hS
      rw [pN_3] at e
      exact kl_frame (c_X5_write_t l G o ax sh nh 3 (by decide) S (h.2.2.2.2 3) i v) [0, 1, 2, 23, 24] rfl (by decide) (fun _ => τ) (fun _ _ => trivial) (fun _ _ => rfl) (fun u _ => by rw [e] <;> rfl) (fun _ => rfl)
set_option maxRecDepth 100000 in
set_option maxHeartbeats 4000000 in
theorem a_X5_lays (l : Launch) (G : pG) (o : Nat) (ax : Nat → Nat) (qh qt sh nh : Nat → Nat) (S : St) (τ : Nu) (h : InS S) (s : Int32)  : KI l G yX5_lays wsX5_lays ({ frames := 2, cells := 0, slots := 0, locals := 43 } : Room) [.ref o, .int s] (wXO o ax (sP S) ++ ([((ax 7), .inl (gI G, 7, .inl (sF S)))] ++ ([((ax 6), .inl (gS G, 4, .inr (.inr (.inr (.inr (fun j => some (sh j)))))))] ++ (wN G (ax 1) qh (sN S) ++ (wN G (ax 2) qt τ ++ (wSH (sh 0) (nh 0) (sB S 0) (nI (sZ S 0)) ++ ([((nh 0), .inl (gJ G, 40, .inr (.inl (sC S 0))))] ++ (wSH (sh 1) (nh 1) (sB S 1) (nI (sZ S 1)) ++ ([((nh 1), .inl (gJ G, 40, .inr (.inl (sC S 1))))] ++ (wSH (sh 2) (nh 2) (sB S 2) (nI (sZ S 2)) ++ ([((nh 2), .inl (gJ G, 40, .inr (.inl (sC S 2))))] ++ (wSH (sh 3) (nh 3) (sB S 3) (nI (sZ S 3)) ++ [((nh 3), .inl (gJ G, 40, .inr (.inl (sC S 3))))])))))))))))) (S := Nu) (fun _ => True) (fun _ => (sp_lays s S).1) (fun u => wXO o ax (sP S) ++ ([((ax 7), .inl (gI G, 7, .inl (sF (sp_lays s S).2)))] ++ ([((ax 6), .inl (gS G, 4, .inr (.inr (.inr (.inr (fun j => some (sh j)))))))] ++ (wN G (ax 1) qh (sN (sp_lays s S).2) ++ (wN G (ax 2) qt u ++ (wSH (sh 0) (nh 0) (sB (sp_lays s S).2 0) (nI (sZ (sp_lays s S).2 0)) ++ ([((nh 0), .inl (gJ G, 40, .inr (.inl (sC (sp_lays s S).2 0))))] ++ (wSH (sh 1) (nh 1) (sB (sp_lays s S).2 1) (nI (sZ (sp_lays s S).2 1)) ++ ([((nh 1), .inl (gJ G, 40, .inr (.inl (sC (sp_lays s S).2 1))))] ++ (wSH (sh 2) (nh 2) (sB (sp_lays s S).2 2) (nI (sZ (sp_lays s S).2 2)) ++ ([((nh 2), .inl (gJ G, 40, .inr (.inl (sC (sp_lays s S).2 2))))] ++ (wSH (sh 3) (nh 3) (sB (sp_lays s S).2 3) (nI (sZ (sp_lays s S).2 3)) ++ [((nh 3), .inl (gJ G, 40, .inr (.inl (sC (sp_lays s S).2 3))))])))))))))))) := by
  have hS := shC_lays s S
  cases hv : inI s 0 3 with
  | false =>
    have e : (sp_lays s S).2 = fnd S 0 := by unfold sp_lays; rw [if_neg (inI_n hv)]; rfl
    exact ki_frame (c_X5_lays_f l G o ax sh S s  hv) [0, 1, 2] rfl (by decide) (fun _ => τ) (fun _ _ => trivial) (fun _ _ => rfl) (fun _ _ => by rw [e] <;> rfl) (fun _ => rfl)
  | true =>
    rcases s_k hv with rfl | rfl | rfl | rfl
    · obtain ⟨σ9, f9, b9, z9, c9, e⟩ := hS
      rw [pN_0] at e
      exact ki_frame (c_X5_lays_t l G o ax qh sh nh 0 (by decide) S (h.2.2.2.2 0) h.1.1) [0, 1, 2, 3, 4, 5, 6, 7, 8, 9, 17, 18] rfl (by decide) (fun _ => τ) (fun _ _ => trivial) (fun _ _ => rfl) (fun u _ => by rw [e] <;> rfl) (fun _ => rfl)
    · obtain ⟨σ9, f9, b9, z9, c9, e⟩ := hS
      rw [pN_1] at e
      exact ki_frame (c_X5_lays_t l G o ax qh sh nh 1 (by decide) S (h.2.2.2.2 1) h.1.1) [0, 1, 2, 3, 4, 5, 6, 7, 8, 9, 19, 20] rfl (by decide) (fun _ => τ) (fun _ _ => trivial) (fun _ _ => rfl) (fun u _ => by rw [e] <;> rfl) (fun _ => rfl)
    · obtain ⟨σ9, f9, b9, z9, c9, e⟩ := hS
      rw [pN_2] at e
      exact ki_frame (c_X5_lays_t l G o ax qh sh nh 2 (by decide) S (h.2.2.2.2 2) h.1.1) [0, 1, 2, 3, 4, 5, 6, 7, 8, 9, 21, 22] rfl (by decide) (fun _ => τ) (fun _ _ => trivial) (fun _ _ => rfl) (fun u _ => by rw [e] <;> rfl) (fun _ => rfl)
    · obtain ⟨σ9, f9, b9, z9, c9, e⟩ := hS
      rw [pN_3] at e
      exact ki_frame (c_X5_lays_t l G o ax qh sh nh 3 (by decide) S (h.2.2.2.2 3) h.1.1) [0, 1, 2, 3, 4, 5, 6, 7, 8, 9, 23, 24] rfl (by decide) (fun _ => τ) (fun _ _ => trivial) (fun _ _ => rfl) (fun u _ => by rw [e] <;> rfl) (fun _ => rfl)
set_option maxRecDepth 100000 in
set_option maxHeartbeats 4000000 in
theorem a_X5_book (l : Launch) (G : pG) (o : Nat) (ax : Nat → Nat) (qh qt sh nh : Nat → Nat) (S : St) (τ : Nu) (h : InS S) (s : Int32)  : KI l G yX5_book wsX5_book ({ frames := 5, cells := 0, slots := 0, locals := 118 } : Room) [.ref o, .int s] (wXO o ax (sP S) ++ ([((ax 7), .inl (gI G, 7, .inl (sF S)))] ++ ([((ax 6), .inl (gS G, 4, .inr (.inr (.inr (.inr (fun j => some (sh j)))))))] ++ (wN G (ax 1) qh (sN S) ++ (wN G (ax 2) qt τ ++ (wSH (sh 0) (nh 0) (sB S 0) (nI (sZ S 0)) ++ ([((nh 0), .inl (gJ G, 40, .inr (.inl (sC S 0))))] ++ (wSH (sh 1) (nh 1) (sB S 1) (nI (sZ S 1)) ++ ([((nh 1), .inl (gJ G, 40, .inr (.inl (sC S 1))))] ++ (wSH (sh 2) (nh 2) (sB S 2) (nI (sZ S 2)) ++ ([((nh 2), .inl (gJ G, 40, .inr (.inl (sC S 2))))] ++ (wSH (sh 3) (nh 3) (sB S 3) (nI (sZ S 3)) ++ [((nh 3), .inl (gJ G, 40, .inr (.inl (sC S 3))))])))))))))))) (S := Nu) (fun _ => True) (fun _ => (sp_book s S).1) (fun u => wXO o ax (sP S) ++ ([((ax 7), .inl (gI G, 7, .inl (sF (sp_book s S).2)))] ++ ([((ax 6), .inl (gS G, 4, .inr (.inr (.inr (.inr (fun j => some (sh j)))))))] ++ (wN G (ax 1) qh (sN (sp_book s S).2) ++ (wN G (ax 2) qt u ++ (wSH (sh 0) (nh 0) (sB (sp_book s S).2 0) (nI (sZ (sp_book s S).2 0)) ++ ([((nh 0), .inl (gJ G, 40, .inr (.inl (sC (sp_book s S).2 0))))] ++ (wSH (sh 1) (nh 1) (sB (sp_book s S).2 1) (nI (sZ (sp_book s S).2 1)) ++ ([((nh 1), .inl (gJ G, 40, .inr (.inl (sC (sp_book s S).2 1))))] ++ (wSH (sh 2) (nh 2) (sB (sp_book s S).2 2) (nI (sZ (sp_book s S).2 2)) ++ ([((nh 2), .inl (gJ G, 40, .inr (.inl (sC (sp_book s S).2 2))))] ++ (wSH (sh 3) (nh 3) (sB (sp_book s S).2 3) (nI (sZ (sp_book s S).2 3)) ++ [((nh 3), .inl (gJ G, 40, .inr (.inl (sC (sp_book s S).2 3))))])))))))))))) := by
  have hS := shC_book s S
  cases hv : inI s 0 3 with
  | false =>
    have e : (sp_book s S).2 = fnd S 0 := by unfold sp_book; rw [if_neg (inI_n hv)]; rfl
    exact ki_frame (c_X5_book_f l G o ax sh S s  hv) [0, 1, 2] rfl (by decide) (fun _ => τ) (fun _ _ => trivial) (fun _ _ => rfl) (fun _ _ => by rw [e] <;> rfl) (fun _ => rfl)
  | true =>
    rcases s_k hv with rfl | rfl | rfl | rfl
    · obtain ⟨σ9, f9, b9, z9, c9, e⟩ := hS
      rw [pN_0] at e
      exact ki_frame (c_X5_book_t l G o ax qh qt sh nh 0 (by decide) S (h.2.2.2.2 0) τ h.1.1 h.1.2.1) [0, 1, 2, 3, 4, 5, 6, 7, 8, 9, 10, 11, 12, 13, 14, 15, 16, 17, 18] rfl (by decide) id (fun _ _ => trivial) (fun _ _ => rfl) (fun u _ => by rw [e] <;> rfl) (fun _ => rfl)
    · obtain ⟨σ9, f9, b9, z9, c9, e⟩ := hS
      rw [pN_1] at e
      exact ki_frame (c_X5_book_t l G o ax qh qt sh nh 1 (by decide) S (h.2.2.2.2 1) τ h.1.1 h.1.2.1) [0, 1, 2, 3, 4, 5, 6, 7, 8, 9, 10, 11, 12, 13, 14, 15, 16, 19, 20] rfl (by decide) id (fun _ _ => trivial) (fun _ _ => rfl) (fun u _ => by rw [e] <;> rfl) (fun _ => rfl)
    · obtain ⟨σ9, f9, b9, z9, c9, e⟩ := hS
      rw [pN_2] at e
      exact ki_frame (c_X5_book_t l G o ax qh qt sh nh 2 (by decide) S (h.2.2.2.2 2) τ h.1.1 h.1.2.1) [0, 1, 2, 3, 4, 5, 6, 7, 8, 9, 10, 11, 12, 13, 14, 15, 16, 21, 22] rfl (by decide) id (fun _ _ => trivial) (fun _ _ => rfl) (fun u _ => by rw [e] <;> rfl) (fun _ => rfl)
    · obtain ⟨σ9, f9, b9, z9, c9, e⟩ := hS
      rw [pN_3] at e
      exact ki_frame (c_X5_book_t l G o ax qh qt sh nh 3 (by decide) S (h.2.2.2.2 3) τ h.1.1 h.1.2.1) [0, 1, 2, 3, 4, 5, 6, 7, 8, 9, 10, 11, 12, 13, 14, 15, 16, 23, 24] rfl (by decide) id (fun _ _ => trivial) (fun _ _ => rfl) (fun u _ => by rw [e] <;> rfl) (fun _ => rfl)
set_option maxRecDepth 100000 in
set_option maxHeartbeats 4000000 in
theorem a_X5_read (l : Launch) (G : pG) (o : Nat) (ax : Nat → Nat) (qh qt sh nh : Nat → Nat) (S : St) (τ : Nu) (h : InS S) (s : Int32) (p : Int32) : KI l G yX5_read wsX5_read ({ frames := 6, cells := 0, slots := 0, locals := 141 } : Room) [.ref o, .int s, .int p] (wXO o ax (sP S) ++ ([((ax 7), .inl (gI G, 7, .inl (sF S)))] ++ ([((ax 6), .inl (gS G, 4, .inr (.inr (.inr (.inr (fun j => some (sh j)))))))] ++ (wN G (ax 1) qh (sN S) ++ (wN G (ax 2) qt τ ++ (wSH (sh 0) (nh 0) (sB S 0) (nI (sZ S 0)) ++ ([((nh 0), .inl (gJ G, 40, .inr (.inl (sC S 0))))] ++ (wSH (sh 1) (nh 1) (sB S 1) (nI (sZ S 1)) ++ ([((nh 1), .inl (gJ G, 40, .inr (.inl (sC S 1))))] ++ (wSH (sh 2) (nh 2) (sB S 2) (nI (sZ S 2)) ++ ([((nh 2), .inl (gJ G, 40, .inr (.inl (sC S 2))))] ++ (wSH (sh 3) (nh 3) (sB S 3) (nI (sZ S 3)) ++ [((nh 3), .inl (gJ G, 40, .inr (.inl (sC S 3))))])))))))))))) (S := Nu) (fun _ => True) (fun _ => (sp_read s p S).1) (fun u => wXO o ax (sP S) ++ ([((ax 7), .inl (gI G, 7, .inl (sF (sp_read s p S).2)))] ++ ([((ax 6), .inl (gS G, 4, .inr (.inr (.inr (.inr (fun j => some (sh j)))))))] ++ (wN G (ax 1) qh (sN (sp_read s p S).2) ++ (wN G (ax 2) qt u ++ (wSH (sh 0) (nh 0) (sB (sp_read s p S).2 0) (nI (sZ (sp_read s p S).2 0)) ++ ([((nh 0), .inl (gJ G, 40, .inr (.inl (sC (sp_read s p S).2 0))))] ++ (wSH (sh 1) (nh 1) (sB (sp_read s p S).2 1) (nI (sZ (sp_read s p S).2 1)) ++ ([((nh 1), .inl (gJ G, 40, .inr (.inl (sC (sp_read s p S).2 1))))] ++ (wSH (sh 2) (nh 2) (sB (sp_read s p S).2 2) (nI (sZ (sp_read s p S).2 2)) ++ ([((nh 2), .inl (gJ G, 40, .inr (.inl (sC (sp_read s p S).2 2))))] ++ (wSH (sh 3) (nh 3) (sB (sp_read s p S).2 3) (nI (sZ (sp_read s p S).2 3)) ++ [((nh 3), .inl (gJ G, 40, .inr (.inl (sC (sp_read s p S).2 3))))])))))))))))) := by
  have hS := shC_read s p S
  cases hv : inI s 0 3 with
  | false =>
    have e : (sp_read s p S).2 = fnd S 0 := by unfold sp_read; rw [if_neg (inI_n hv)]; rfl
    exact ki_frame (c_X5_read_f l G o ax sh S s p hv) [0, 1, 2] rfl (by decide) (fun _ => τ) (fun _ _ => trivial) (fun _ _ => rfl) (fun _ _ => by rw [e] <;> rfl) (fun _ => rfl)
  | true =>
    rcases s_k hv with rfl | rfl | rfl | rfl
    · obtain ⟨σ9, f9, b9, z9, c9, e⟩ := hS
      rw [pN_0] at e
      exact ki_frame (c_X5_read_t l G o ax qh qt sh nh 0 (by decide) S (h.2.2.2.2 0) τ h.1.1 h.1.2.1 p) [0, 1, 2, 3, 4, 5, 6, 7, 8, 9, 10, 11, 12, 13, 14, 15, 16, 17, 18] rfl (by decide) id (fun _ _ => trivial) (fun _ _ => rfl) (fun u _ => by rw [e] <;> rfl) (fun _ => rfl)
    · obtain ⟨σ9, f9, b9, z9, c9, e⟩ := hS
      rw [pN_1] at e
      exact ki_frame (c_X5_read_t l G o ax qh qt sh nh 1 (by decide) S (h.2.2.2.2 1) τ h.1.1 h.1.2.1 p) [0, 1, 2, 3, 4, 5, 6, 7, 8, 9, 10, 11, 12, 13, 14, 15, 16, 19, 20] rfl (by decide) id (fun _ _ => trivial) (fun _ _ => rfl) (fun u _ => by rw [e] <;> rfl) (fun _ => rfl)
    · obtain ⟨σ9, f9, b9, z9, c9, e⟩ := hS
      rw [pN_2] at e
      exact ki_frame (c_X5_read_t l G o ax qh qt sh nh 2 (by decide) S (h.2.2.2.2 2) τ h.1.1 h.1.2.1 p) [0, 1, 2, 3, 4, 5, 6, 7, 8, 9, 10, 11, 12, 13, 14, 15, 16, 21, 22] rfl (by decide) id (fun _ _ => trivial) (fun _ _ => rfl) (fun u _ => by rw [e] <;> rfl) (fun _ => rfl)
    · obtain ⟨σ9, f9, b9, z9, c9, e⟩ := hS
      rw [pN_3] at e
      exact ki_frame (c_X5_read_t l G o ax qh qt sh nh 3 (by decide) S (h.2.2.2.2 3) τ h.1.1 h.1.2.1 p) [0, 1, 2, 3, 4, 5, 6, 7, 8, 9, 10, 11, 12, 13, 14, 15, 16, 23, 24] rfl (by decide) id (fun _ _ => trivial) (fun _ _ => rfl) (fun u _ => by rw [e] <;> rfl) (fun _ => rfl)
set_option maxRecDepth 100000 in
set_option maxHeartbeats 4000000 in
theorem a_X5_copy (l : Launch) (G : pG) (o : Nat) (ax : Nat → Nat) (qh qt sh nh : Nat → Nat) (S : St) (τ : Nu) (h : InS S) (s a t b n : Int32) : KI l G yX5_copy wsX5_copy ({ frames := 2, cells := 0, slots := 0, locals := 43 } : Room) [.ref o, .int s, .int a, .int t, .int b, .int n] (wXO o ax (sP S) ++ ([((ax 7), .inl (gI G, 7, .inl (sF S)))] ++ ([((ax 6), .inl (gS G, 4, .inr (.inr (.inr (.inr (fun j => some (sh j)))))))] ++ (wN G (ax 1) qh (sN S) ++ (wN G (ax 2) qt τ ++ (wSH (sh 0) (nh 0) (sB S 0) (nI (sZ S 0)) ++ ([((nh 0), .inl (gJ G, 40, .inr (.inl (sC S 0))))] ++ (wSH (sh 1) (nh 1) (sB S 1) (nI (sZ S 1)) ++ ([((nh 1), .inl (gJ G, 40, .inr (.inl (sC S 1))))] ++ (wSH (sh 2) (nh 2) (sB S 2) (nI (sZ S 2)) ++ ([((nh 2), .inl (gJ G, 40, .inr (.inl (sC S 2))))] ++ (wSH (sh 3) (nh 3) (sB S 3) (nI (sZ S 3)) ++ [((nh 3), .inl (gJ G, 40, .inr (.inl (sC S 3))))])))))))))))) (S := Nu) (fun _ => True) (fun _ => (sp_copy s a t b n S).1) (fun u => wXO o ax (sP S) ++ ([((ax 7), .inl (gI G, 7, .inl (sF (sp_copy s a t b n S).2)))] ++ ([((ax 6), .inl (gS G, 4, .inr (.inr (.inr (.inr (fun j => some (sh j)))))))] ++ (wN G (ax 1) qh (sN (sp_copy s a t b n S).2) ++ (wN G (ax 2) qt u ++ (wSH (sh 0) (nh 0) (sB (sp_copy s a t b n S).2 0) (nI (sZ (sp_copy s a t b n S).2 0)) ++ ([((nh 0), .inl (gJ G, 40, .inr (.inl (sC (sp_copy s a t b n S).2 0))))] ++ (wSH (sh 1) (nh 1) (sB (sp_copy s a t b n S).2 1) (nI (sZ (sp_copy s a t b n S).2 1)) ++ ([((nh 1), .inl (gJ G, 40, .inr (.inl (sC (sp_copy s a t b n S).2 1))))] ++ (wSH (sh 2) (nh 2) (sB (sp_copy s a t b n S).2 2) (nI (sZ (sp_copy s a t b n S).2 2)) ++ ([((nh 2), .inl (gJ G, 40, .inr (.inl (sC (sp_copy s a t b n S).2 2))))] ++ (wSH (sh 3) (nh 3) (sB (sp_copy s a t b n S).2 3) (nI (sZ (sp_copy s a t b n S).2 3)) ++ [((nh 3), .inl (gJ G, 40, .inr (.inl (sC (sp_copy s a t b n S).2 3))))])))))))))))) := by
  have hS := shC_copy s a t b n S
  cases hv : inI s 0 3 with
  | false =>
    have e : (sp_copy s a t b n S).2 = fnd S 0 := by unfold sp_copy; rw [if_neg (fun q => absurd q.1 (inI_n hv))]; rfl
    cases hv2 : inI t 0 3 with
    | false => exact ki_frame (c_X5_copy_ff l G o ax sh S s hv t hv2 a b n) [0, 1, 2] rfl (by decide) (fun _ => τ) (fun _ _ => trivial) (fun _ _ => rfl) (fun u _ => by rw [e] <;> rfl) (fun _ => rfl)
    | true =>
      rcases s_k hv2 with rfl | rfl | rfl | rfl
      · exact ki_frame (c_X5_copy_ft l G o ax sh S 0 (by decide) s hv a b n) [0, 1, 2] rfl (by decide) (fun _ => τ) (fun _ _ => trivial) (fun _ _ => rfl) (fun u _ => by rw [e] <;> rfl) (fun _ => rfl)
      · exact ki_frame (c_X5_copy_ft l G o ax sh S 1 (by decide) s hv a b n) [0, 1, 2] rfl (by decide) (fun _ => τ) (fun _ _ => trivial) (fun _ _ => rfl) (fun u _ => by rw [e] <;> rfl) (fun _ => rfl)
      · exact ki_frame (c_X5_copy_ft l G o ax sh S 2 (by decide) s hv a b n) [0, 1, 2] rfl (by decide) (fun _ => τ) (fun _ _ => trivial) (fun _ _ => rfl) (fun u _ => by rw [e] <;> rfl) (fun _ => rfl)
      · exact ki_frame (c_X5_copy_ft l G o ax sh S 3 (by decide) s hv a b n) [0, 1, 2] rfl (by decide) (fun _ => τ) (fun _ _ => trivial) (fun _ _ => rfl) (fun u _ => by rw [e] <;> rfl) (fun _ => rfl)
  | true =>
    cases hv2 : inI t 0 3 with
    | false =>
      have e : (sp_copy s a t b n S).2 = fnd S 0 := by unfold sp_copy; rw [if_neg (fun q => absurd q.2 (inI_n hv2))]; rfl
      rcases s_k hv with rfl | rfl | rfl | rfl
      · exact ki_frame (c_X5_copy_tf l G o ax sh S 0 (by decide) t hv2 a b n) [0, 1, 2] rfl (by decide) (fun _ => τ) (fun _ _ => trivial) (fun _ _ => rfl) (fun u _ => by rw [e] <;> rfl) (fun _ => rfl)
      · exact ki_frame (c_X5_copy_tf l G o ax sh S 1 (by decide) t hv2 a b n) [0, 1, 2] rfl (by decide) (fun _ => τ) (fun _ _ => trivial) (fun _ _ => rfl) (fun u _ => by rw [e] <;> rfl) (fun _ => rfl)
      · exact ki_frame (c_X5_copy_tf l G o ax sh S 2 (by decide) t hv2 a b n) [0, 1, 2] rfl (by decide) (fun _ => τ) (fun _ _ => trivial) (fun _ _ => rfl) (fun u _ => by rw [e] <;> rfl) (fun _ => rfl)
      · exact ki_frame (c_X5_copy_tf l G o ax sh S 3 (by decide) t hv2 a b n) [0, 1, 2] rfl (by decide) (fun _ => τ) (fun _ _ => trivial) (fun _ _ => rfl) (fun u _ => by rw [e] <;> rfl) (fun _ => rfl)
    | true =>
      rcases s_k hv2 with rfl | rfl | rfl | rfl
      · obtain ⟨σ9, f9, b9, z9, c9, e⟩ := hS
        rw [pN_0] at e
        rcases s_k hv with rfl | rfl | rfl | rfl
        · exact ki_frame (c_X5_copy_s l G o ax sh nh 0 (by decide) S (h.2.2.2.2 0) a b n) [0, 1, 2, 17, 18] rfl (by decide) (fun _ => τ) (fun _ _ => trivial) (fun _ _ => rfl) (fun u _ => by rw [e] <;> rfl) (fun _ => rfl)
        · exact ki_frame (c_X5_copy_t l G o ax sh nh 1 (by decide) 0 (by decide) (by decide) S (h.2.2.2.2 1) (h.2.2.2.2 0) a b n) [0, 1, 2, 19, 20, 17, 18] rfl (by decide) (fun _ => τ) (fun _ _ => trivial) (fun _ _ => rfl) (fun u _ => by rw [e] <;> rfl) (fun _ => rfl)
        · exact ki_frame (c_X5_copy_t l G o ax sh nh 2 (by decide) 0 (by decide) (by decide) S (h.2.2.2.2 2) (h.2.2.2.2 0) a b n) [0, 1, 2, 21, 22, 17, 18] rfl (by decide) (fun _ => τ) (fun _ _ => trivial) (fun _ _ => rfl) (fun u _ => by rw [e] <;> rfl) (fun _ => rfl)
        · exact ki_frame (c_X5_copy_t l G o ax sh nh 3 (by decide) 0 (by decide) (by decide) S (h.2.2.2.2 3) (h.2.2.2.2 0) a b n) [0, 1, 2, 23, 24, 17, 18] rfl (by decide) (fun _ => τ) (fun _ _ => trivial) (fun _ _ => rfl) (fun u _ => by rw [e] <;> rfl) (fun _ => rfl)
      · obtain ⟨σ9, f9, b9, z9, c9, e⟩ := hS
        rw [pN_1] at e
        rcases s_k hv with rfl | rfl | rfl | rfl
        · exact ki_frame (c_X5_copy_t l G o ax sh nh 0 (by decide) 1 (by decide) (by decide) S (h.2.2.2.2 0) (h.2.2.2.2 1) a b n) [0, 1, 2, 17, 18, 19, 20] rfl (by decide) (fun _ => τ) (fun _ _ => trivial) (fun _ _ => rfl) (fun u _ => by rw [e] <;> rfl) (fun _ => rfl)
        · exact ki_frame (c_X5_copy_s l G o ax sh nh 1 (by decide) S (h.2.2.2.2 1) a b n) [0, 1, 2, 19, 20] rfl (by decide) (fun _ => τ) (fun _ _ => trivial) (fun _ _ => rfl) (fun u _ => by rw [e] <;> rfl) (fun _ => rfl)
        · exact ki_frame (c_X5_copy_t l G o ax sh nh 2 (by decide) 1 (by decide) (by decide) S (h.2.2.2.2 2) (h.2.2.2.2 1) a b n) [0, 1, 2, 21, 22, 19, 20] rfl (by decide) (fun _ => τ) (fun _ _ => trivial) (fun _ _ => rfl) (fun u _ => by rw [e] <;> rfl) (fun _ => rfl)
        · exact ki_frame (c_X5_copy_t l G o ax sh nh 3 (by decide) 1 (by decide) (by decide) S (h.2.2.2.2 3) (h.2.2.2.2 1) a b n) [0, 1, 2, 23, 24, 19, 20] rfl (by decide) (fun _ => τ) (fun _ _ => trivial) (fun _ _ => rfl) (fun u _ => by rw [e] <;> rfl) (fun _ => rfl)
      · obtain ⟨σ9, f9, b9, z9, c9, e⟩ := hS
        rw [pN_2] at e
        rcases s_k hv with rfl | rfl | rfl | rfl
        · exact ki_frame (c_X5_copy_t l G o ax sh nh 0 (by decide) 2 (by decide) (by decide) S (h.2.2.2.2 0) (h.2.2.2.2 2) a b n) [0, 1, 2, 17, 18, 21, 22] rfl (by decide) (fun _ => τ) (fun _ _ => trivial) (fun _ _ => rfl) (fun u _ => by rw [e] <;> rfl) (fun _ => rfl)
        · exact ki_frame (c_X5_copy_t l G o ax sh nh 1 (by decide) 2 (by decide) (by decide) S (h.2.2.2.2 1) (h.2.2.2.2 2) a b n) [0, 1, 2, 19, 20, 21, 22] rfl (by decide) (fun _ => τ) (fun _ _ => trivial) (fun _ _ => rfl) (fun u _ => by rw [e] <;> rfl) (fun _ => rfl)
        · exact ki_frame (c_X5_copy_s l G o ax sh nh 2 (by decide) S (h.2.2.2.2 2) a b n) [0, 1, 2, 21, 22] rfl (by decide) (fun _ => τ) (fun _ _ => trivial) (fun _ _ => rfl) (fun u _ => by rw [e] <;> rfl) (fun _ => rfl)
        · exact ki_frame (c_X5_copy_t l G o ax sh nh 3 (by decide) 2 (by decide) (by decide) S (h.2.2.2.2 3) (h.2.2.2.2 2) a b n) [0, 1, 2, 23, 24, 21, 22] rfl (by decide) (fun _ => τ) (fun _ _ => trivial) (fun _ _ => rfl) (fun u _ => by rw [e] <;> rfl) (fun _ => rfl)
      · obtain ⟨σ9, f9, b9, z9, c9, e⟩ := hS
        rw [pN_3] at e
        rcases s_k hv with rfl | rfl | rfl | rfl
        · exact ki_frame (c_X5_copy_t l G o ax sh nh 0 (by decide) 3 (by decide) (by decide) S (h.2.2.2.2 0) (h.2.2.2.2 3) a b n) [0, 1, 2, 17, 18, 23, 24] rfl (by decide) (fun _ => τ) (fun _ _ => trivial) (fun _ _ => rfl) (fun u _ => by rw [e] <;> rfl) (fun _ => rfl)
        · exact ki_frame (c_X5_copy_t l G o ax sh nh 1 (by decide) 3 (by decide) (by decide) S (h.2.2.2.2 1) (h.2.2.2.2 3) a b n) [0, 1, 2, 19, 20, 23, 24] rfl (by decide) (fun _ => τ) (fun _ _ => trivial) (fun _ _ => rfl) (fun u _ => by rw [e] <;> rfl) (fun _ => rfl)
        · exact ki_frame (c_X5_copy_t l G o ax sh nh 2 (by decide) 3 (by decide) (by decide) S (h.2.2.2.2 2) (h.2.2.2.2 3) a b n) [0, 1, 2, 21, 22, 23, 24] rfl (by decide) (fun _ => τ) (fun _ _ => trivial) (fun _ _ => rfl) (fun u _ => by rw [e] <;> rfl) (fun _ => rfl)
        · exact ki_frame (c_X5_copy_s l G o ax sh nh 3 (by decide) S (h.2.2.2.2 3) a b n) [0, 1, 2, 23, 24] rfl (by decide) (fun _ => τ) (fun _ _ => trivial) (fun _ _ => rfl) (fun u _ => by rw [e] <;> rfl) (fun _ => rfl)
