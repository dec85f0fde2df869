set_option maxRecDepth 100000 in
set_option maxHeartbeats 4000000 in
theorem a_X5_lays (l : Launch) (G : pG) (o : Nat) (ax : Nat → Nat) (qh qt sh nh : Nat → Nat) (S : St) (τ : Nu) (h : InS S) (s : Int32)  : KI l G yX5_lays wsX5_lays ({ frames := 2, cells := 0, slots := 0, locals := 43 } : Room) [.ref o, .int s] (wXO o ax (sP S) ++ ([((ax 7), .inl (gI G, 7, .inl (sF S)))] ++ ([((ax 6), .inl (gS G, 4, .inr (.inr (.inr (.inr (fun j => some (sh j)))))))] ++ (wN G (ax 1) qh (sN S) ++ (wN G (ax 2) qt τ ++ (wSH (sh 0) (nh 0) (sB S 0) (nI (sZ S 0)) ++ ([((nh 0), .inl (gJ G, 40, .inr (.inl (sC S 0))))] ++ (wSH (sh 1) (nh 1) (sB S 1) (nI (sZ S 1)) ++ ([((nh 1), .inl (gJ G, 40, .inr (.inl (sC S 1))))] ++ (wSH (sh 2) (nh 2) (sB S 2) (nI (sZ S 2)) ++ ([((nh 2), .inl (gJ G, 40, .inr (.inl (sC S 2))))] ++ (wSH (sh 3) (nh 3) (sB S 3) (nI (sZ S 3)) ++ [((nh 3), .inl (gJ G, 40, .inr (.inl (sC S 3))))])))))))))))) (S := Nu) (fun _ => True) (fun _ => (sp_lays s S).1) (fun u => wXO o ax (sP S) ++ ([((ax 7), .inl (gI G, 7, .inl (sF (sp_lays s S).2)))] ++ ([((ax 6), .inl (gS G, 4, .inr (.inr (.inr (.inr (fun j => some (sh j)))))))] ++ (wN G (ax 1) qh (sN (sp_lays s S).2) ++ (wN G (ax 2) qt u ++ (wSH (sh 0) (nh 0) (sB (sp_lays s S).2 0) (nI (sZ (sp_lays s S).2 0)) ++ ([((nh 0), .inl (gJ G, 40, .inr (.inl (sC (sp_lays s S).2 0))))] ++ (wSH (sh 1) (nh 1) (sB (sp_lays s S).2 1) (nI (sZ (sp_lays s S).2 1)) ++ ([((nh 1), .inl (gJ G, 40, .inr (.inl (sC (sp_lays s S).2 1))))] ++ (wSH (sh 2) (nh 2) (sB (sp_lays s S).2 2) (nI (sZ (sp_lays s S).2 2)) ++ ([((nh 2), .inl (gJ G, 40, .inr (.inl (sC (sp_lays s S).2 2))))] ++ (wSH (sh 3) (nh 3) (sB (sp_lays s S).2 3) (nI (sZ (sp_lays s S).2 3)) ++ [((nh 3), .inl (gJ G, 40, .inr (.inl (sC (sp_lays s S).2 3))))])))))))))))) := by
  obtain ⟨σ9, hS⟩ := shC_lays s S
  cases hv : inI s 0 3 with
  | false =>
    have e : (sp_lays s S).2 = fnd S 0 := by unfold sp_lays; rw [if_neg (inI_n hv)]; rfl
    exact ki_frame (c_X5_lays_f l G o ax sh S s  hv) [0, 1, 2] rfl (by decide) (fun _ => τ) (fun _ _ => trivial) (fun _ _ => rfl) (fun _ _ => by rw [e] <;> rfl) (fun _ => Eq.trans (b := [o, ax 7, ax 6, ax 1, qh 1, qh 2, qh 3, qh 4, qh 5, qh 6, ax 2, qt 1, qt 2, qt 3, qt 4, qt 5, qt 6, sh 0, nh 0, sh 1, nh 1, sh 2, nh 2, sh 3, nh 3]) rfl rfl)
  | true =>
    rcases s_k hv with rfl | rfl | rfl | rfl
    · obtain ⟨f9, b9, z9, c9, e⟩ := hS
      rw [pN_0] at e
      exact ki_frame (c_X5_lays_t l G o ax qh sh nh 0 (by decide) S (h.2.2.2.2 0) h.1.1) [0, 1, 2, 3, 4, 5, 6, 7, 8, 9, 17, 18] rfl (by decide) (fun _ => τ) (fun _ _ => trivial) (fun _ _ => rfl) (fun u _ => by rw [e] <;> rfl) (fun _ => Eq.trans (b := [o, ax 7, ax 6, ax 1, qh 1, qh 2, qh 3, qh 4, qh 5, qh 6, ax 2, qt 1, qt 2, qt 3, qt 4, qt 5, qt 6, sh 0, nh 0, sh 1, nh 1, sh 2, nh 2, sh 3, nh 3]) rfl rfl)
    · obtain ⟨f9, b9, z9, c9, e⟩ := hS
      rw [pN_1] at e
      exact ki_frame (c_X5_lays_t l G o ax qh sh nh 1 (by decide) S (h.2.2.2.2 1) h.1.1) [0, 1, 2, 3, 4, 5, 6, 7, 8, 9, 19, 20] rfl (by decide) (fun _ => τ) (fun _ _ => trivial) (fun _ _ => rfl) (fun u _ => by rw [e] <;> rfl) (fun _ => Eq.trans (b := [o, ax 7, ax 6, ax 1, qh 1, qh 2, qh 3, qh 4, qh 5, qh 6, ax 2, qt 1, qt 2, qt 3, qt 4, qt 5, qt 6, sh 0, nh 0, sh 1, nh 1, sh 2, nh 2, sh 3, nh 3]) rfl rfl)
    · obtain ⟨f9, b9, z9, c9, e⟩ := hS
      rw [pN_2] at e
      exact ki_frame (c_X5_lays_t l G o ax qh sh nh 2 (by decide) S (h.2.2.2.2 2) h.1.1) [0, 1, 2, 3, 4, 5, 6, 7, 8, 9, 21, 22] rfl (by decide) (fun _ => τ) (fun _ _ => trivial) (fun _ _ => rfl) (fun u _ => by rw [e] <;> rfl) (fun _ => Eq.trans (b := [o, ax 7, ax 6, ax 1, qh 1, qh 2, qh 3, qh 4, qh 5, qh 6, ax 2, qt 1, qt 2, qt 3, qt 4, qt 5, qt 6, sh 0, nh 0, sh 1, nh 1, sh 2, nh 2, sh 3, nh 3]) rfl rfl)
    · obtain ⟨f9, b9, z9, c9, e⟩ := hS
      rw [pN_3] at e
      exact ki_frame (c_X5_lays_t l G o ax qh sh nh 3 (by decide) S (h.2.2.2.2 3) h.1.1) [0, 1, 2, 3, 4, 5, 6, 7, 8, 9, 23, 24] rfl (by decide) (fun _ => τ) (fun _ _ => trivial) (fun _ _ => rfl) (fun u _ => by rw [e] <;> rfl) (fun _ => Eq.trans (b := [o, ax 7, ax 6, ax 1, qh 1, qh 2, qh 3, qh 4, qh 5, qh 6, ax 2, qt 1, qt 2, qt 3, qt 4, qt 5, qt 6, sh 0, nh 0, sh 1, nh 1, sh 2, nh 2, sh 3, nh 3]) rfl rfl)
