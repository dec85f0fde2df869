set_option maxRecDepth 100000 in
set_option maxHeartbeats 4000000 in
theorem a_X6_sheet (l : Launch) (G : pG) (o : Nat) (am : Nat → Nat) (S : St) (la tk be an va : Int32) (bd : Bool) (h : InS S) (s : Int32) (b n : Int32) : KI l G yX6_sheet wsX6_sheet ({ frames := 2, cells := 0, slots := 0, locals := 43 } : Room) [.ref o, .int s, .int b, .int n] (wMO o am (sP S) la (nI (sL S)) tk be an va bd ++ ([((am 3), .inl (gI G, 7, .inl (sF S)))] ++ ([((am 5), .inl (gI G, 4, .inl (sB S)))] ++ ([((am 6), .inl (gI G, 4, .inl (zN (sZ S))))] ++ [((am 7), .inl (gJ G, 160, .inr (.inl (cm (sC S)))))])))) (S := Unit) (fun _ => True) (fun u => (sp_sheet s b n S).1) (fun u => wMO o am (sP S) la (nI (sL S)) tk be an va bd ++ ([((am 3), .inl (gI G, 7, .inl (sF (sp_sheet s b n S).2)))] ++ ([((am 5), .inl (gI G, 4, .inl (sB (sp_sheet s b n S).2)))] ++ ([((am 6), .inl (gI G, 4, .inl (zN (sZ (sp_sheet s b n S).2))))] ++ [((am 7), .inl (gJ G, 160, .inr (.inl (cm (sC (sp_sheet s b n S).2)))))])))) := by
  cases hv : inI s 0 3 with
  | false => exact c_X6_sheet_f l G o am S la tk be an va bd s b n hv
  | true =>
    obtain ⟨k, hk, rfl⟩ := in_k (M := 3) (m := 3) rfl hv
    exact c_X6_sheet_t l G o am S la tk be an va bd k (by omega) b n
set_option maxRecDepth 100000 in
set_option maxHeartbeats 4000000 in
theorem a_X6_write (l : Launch) (G : pG) (o : Nat) (am : Nat → Nat) (S : St) (la tk be an va : Int32) (bd : Bool) (h : InS S) (s : Int32) (i : Int32) (v : Int64) : KL l G yX6_write wsX6_write ({ frames := 3, cells := 0, slots := 0, locals := 64 } : Room) [.ref o, .int s, .int i, .long (v)] (wMO o am (sP S) la (nI (sL S)) tk be an va bd ++ ([((am 3), .inl (gI G, 7, .inl (sF S)))] ++ ([((am 5), .inl (gI G, 4, .inl (sB S)))] ++ ([((am 6), .inl (gI G, 4, .inl (zN (sZ S))))] ++ [((am 7), .inl (gJ G, 160, .inr (.inl (cm (sC S)))))])))) (S := Unit) (fun _ => True) (fun u => (sp_write s i v S).1) (fun u => wMO o am (sP S) la (nI (sL S)) tk be an va bd ++ ([((am 3), .inl (gI G, 7, .inl (sF (sp_write s i v S).2)))] ++ ([((am 5), .inl (gI G, 4, .inl (sB (sp_write s i v S).2)))] ++ ([((am 6), .inl (gI G, 4, .inl (zN (sZ (sp_write s i v S).2))))] ++ [((am 7), .inl (gJ G, 160, .inr (.inl (cm (sC (sp_write s i v S).2)))))])))) := by
  cases hv : inI s 0 3 with
  | false => exact c_X6_write_f l G o am S la tk be an va bd s i v hv
  | true =>
    obtain ⟨k, hk, rfl⟩ := in_k (M := 3) (m := 3) rfl hv
    exact c_X6_write_t l G o am S la tk be an va bd k (by omega) (h.2.2.2.2 k) i v
set_option maxRecDepth 100000 in
set_option maxHeartbeats 4000000 in
theorem a_X6_lays (l : Launch) (G : pG) (o : Nat) (am : Nat → Nat) (S : St) (la tk be an va : Int32) (bd : Bool) (h : InS S) (s : Int32)  : KI l G yX6_lays wsX6_lays ({ frames := 3, cells := 0, slots := 0, locals := 64 } : Room) [.ref o, .int s] (wMO o am (sP S) la (nI (sL S)) tk be an va bd ++ ([((am 0), .inl (gI G, 51, .inl (mm (sN S))))] ++ ([((am 3), .inl (gI G, 7, .inl (sF S)))] ++ ([((am 5), .inl (gI G, 4, .inl (sB S)))] ++ ([((am 6), .inl (gI G, 4, .inl (zN (sZ S))))] ++ [((am 7), .inl (gJ G, 160, .inr (.inl (cm (sC S)))))]))))) (S := Unit) (fun _ => True) (fun u => (sp_lays s S).1) (fun u => wMO o am (sP S) la (nI (sL S)) tk be an va bd ++ ([((am 0), .inl (gI G, 51, .inl (mm (sN (sp_lays s S).2))))] ++ ([((am 3), .inl (gI G, 7, .inl (sF (sp_lays s S).2)))] ++ ([((am 5), .inl (gI G, 4, .inl (sB (sp_lays s S).2)))] ++ ([((am 6), .inl (gI G, 4, .inl (zN (sZ (sp_lays s S).2))))] ++ [((am 7), .inl (gJ G, 160, .inr (.inl (cm (sC (sp_lays s S).2)))))]))))) := by
  cases hv : inI s 0 3 with
  | false => exact c_X6_lays_f l G o am S la tk be an va bd s hv
  | true =>
    obtain ⟨k, hk, rfl⟩ := in_k (M := 3) (m := 3) rfl hv
    exact c_X6_lays_t l G o am S la tk be an va bd h.1.1 k (by omega) (h.2.2.2.2 k)
set_option maxRecDepth 100000 in
set_option maxHeartbeats 4000000 in
theorem a_X6_book (l : Launch) (G : pG) (o : Nat) (am : Nat → Nat) (S : St) (la tk be an va : Int32) (bd : Bool) (ω : Nu) (h : InS S) (s : Int32)  : KI l G yX6_book wsX6_book ({ frames := 7, cells := 0, slots := 0, locals := 157 } : Room) [.ref o, .int s] (wMO o am (sP S) la (nI (sL S)) tk be an va bd ++ ([((am 0), .inl (gI G, 51, .inl (mm (sN S))))] ++ ([((am 3), .inl (gI G, 7, .inl (sF S)))] ++ ([((am 2), .inl (gI G, 51, .inl (mm ω)))] ++ ([((am 5), .inl (gI G, 4, .inl (sB S)))] ++ ([((am 6), .inl (gI G, 4, .inl (zN (sZ S))))] ++ [((am 7), .inl (gJ G, 160, .inr (.inl (cm (sC S)))))])))))) (S := (Int32 × Nu)) (fun _ => True) (fun u => (sp_book s S).1) (fun u => wMO o am (sP S) (u.1) (nI (sL S)) tk be an va bd ++ ([((am 0), .inl (gI G, 51, .inl (mm (sN (sp_book s S).2))))] ++ ([((am 3), .inl (gI G, 7, .inl (sF (sp_book s S).2)))] ++ ([((am 2), .inl (gI G, 51, .inl (mm u.2)))] ++ ([((am 5), .inl (gI G, 4, .inl (sB (sp_book s S).2)))] ++ ([((am 6), .inl (gI G, 4, .inl (zN (sZ (sp_book s S).2))))] ++ [((am 7), .inl (gJ G, 160, .inr (.inl (cm (sC (sp_book s S).2)))))])))))) := by
  cases hv : inI s 0 3 with
  | false => exact c_X6_book_f l G o am S la tk be an va bd ω h.1.1 h.1.2.1 s hv
  | true =>
    obtain ⟨k, hk, rfl⟩ := in_k (M := 3) (m := 3) rfl hv
    exact c_X6_book_t l G o am S la tk be an va bd ω h.1.1 h.1.2.1 k (by omega) (h.2.2.2.2 k)
set_option maxRecDepth 100000 in
set_option maxHeartbeats 4000000 in
theorem a_X6_read (l : Launch) (G : pG) (o : Nat) (am : Nat → Nat) (S : St) (la tk be an va : Int32) (bd : Bool) (ω : Nu) (h : InS S) (s : Int32) (p : Int32) : KI l G yX6_read wsX6_read ({ frames := 8, cells := 0, slots := 0, locals := 181 } : Room) [.ref o, .int s, .int p] (wMO o am (sP S) la (nI (sL S)) tk be an va bd ++ ([((am 0), .inl (gI G, 51, .inl (mm (sN S))))] ++ ([((am 3), .inl (gI G, 7, .inl (sF S)))] ++ ([((am 2), .inl (gI G, 51, .inl (mm ω)))] ++ ([((am 5), .inl (gI G, 4, .inl (sB S)))] ++ ([((am 6), .inl (gI G, 4, .inl (zN (sZ S))))] ++ [((am 7), .inl (gJ G, 160, .inr (.inl (cm (sC S)))))])))))) (S := (Int32 × Nu)) (fun _ => True) (fun u => (sp_read s p S).1) (fun u => wMO o am (sP S) (u.1) (nI (sL S)) tk be an va bd ++ ([((am 0), .inl (gI G, 51, .inl (mm (sN (sp_read s p S).2))))] ++ ([((am 3), .inl (gI G, 7, .inl (sF (sp_read s p S).2)))] ++ ([((am 2), .inl (gI G, 51, .inl (mm u.2)))] ++ ([((am 5), .inl (gI G, 4, .inl (sB (sp_read s p S).2)))] ++ ([((am 6), .inl (gI G, 4, .inl (zN (sZ (sp_read s p S).2))))] ++ [((am 7), .inl (gJ G, 160, .inr (.inl (cm (sC (sp_read s p S).2)))))])))))) := by
  cases hv : inI s 0 3 with
  | false => exact c_X6_read_f l G o am S la tk be an va bd ω h.1.1 h.1.2.1 s p hv
  | true =>
    obtain ⟨k, hk, rfl⟩ := in_k (M := 3) (m := 3) rfl hv
    exact c_X6_read_t l G o am S la tk be an va bd ω h.1.1 h.1.2.1 k (by omega) (h.2.2.2.2 k) p
set_option maxRecDepth 100000 in
set_option maxHeartbeats 4000000 in
theorem a_X6_copy (l : Launch) (G : pG) (o : Nat) (am : Nat → Nat) (S : St) (la tk be an va : Int32) (bd : Bool) (h : InS S) (s a t b n : Int32) : KI l G yX6_copy wsX6_copy ({ frames := 3, cells := 0, slots := 0, locals := 69 } : Room) [.ref o, .int s, .int a, .int t, .int b, .int n] (wMO o am (sP S) la (nI (sL S)) tk be an va bd ++ ([((am 3), .inl (gI G, 7, .inl (sF S)))] ++ ([((am 5), .inl (gI G, 4, .inl (sB S)))] ++ ([((am 6), .inl (gI G, 4, .inl (zN (sZ S))))] ++ [((am 7), .inl (gJ G, 160, .inr (.inl (cm (sC S)))))])))) (S := Unit) (fun _ => True) (fun u => (sp_copy s a t b n S).1) (fun u => wMO o am (sP S) la (nI (sL S)) tk be an va bd ++ ([((am 3), .inl (gI G, 7, .inl (sF (sp_copy s a t b n S).2)))] ++ ([((am 5), .inl (gI G, 4, .inl (sB (sp_copy s a t b n S).2)))] ++ ([((am 6), .inl (gI G, 4, .inl (zN (sZ (sp_copy s a t b n S).2))))] ++ [((am 7), .inl (gJ G, 160, .inr (.inl (cm (sC (sp_copy s a t b n S).2)))))])))) := by
  by_cases hv : inI s 0 3 = true ∧ inI t 0 3 = true
  · obtain ⟨h1, h2⟩ := hv
    obtain ⟨k, hk, rfl⟩ := in_k (M := 3) (m := 3) rfl h1
    obtain ⟨j, hj, rfl⟩ := in_k (M := 3) (m := 3) rfl h2
    exact c_X6_copy_t l G o am S la tk be an va bd k (by omega) j (by omega) (h.2.2.2.2 k) (h.2.2.2.2 j) a b n
  · exact c_X6_copy_f l G o am S la tk be an va bd s t hv a b n
set_option maxRecDepth 100000 in
set_option maxHeartbeats 4000000 in
theorem c_X6_imageK (l : Launch) (G : pG) (o : Nat) (am : Nat → Nat) (S : St) (κ : Nu) (la tk be an va : Int32) (bd : Bool) (ω : Nu) (hI : Inv (sN S)) (hD : dyN (sN S) ≤ 9999) : KI l G yX6_image wsX6_image ({ frames := 1, cells := 0, slots := 0, locals := 22 } : Room) [.ref o] (wMO o am (sP S) la (nI (sL S)) tk be an va bd ++ ([((am 0), .inl (gI G, 51, .inl (mm (sN S))))] ++ [((am 1), .inl (gI G, 51, .inl (mm κ)))])) (S := Unit) (fun _ => True) (fun u => (sp_image S).1) (fun u => wMO o am (sP (sp_image S).2) la (nI (sL S)) tk be an va bd ++ ([((am 0), .inl (gI G, 51, .inl (mm (sN S))))] ++ [((am 1), .inl (gI G, 51, .inl (mm (sK (sp_image S).2))))])) := c_X6_image l G o am (sN S, κ, S.2.2) la tk be an va bd ω hI hD
set_option maxRecDepth 100000 in
set_option maxHeartbeats 4000000 in
theorem c_X6_undoK (l : Launch) (G : pG) (o : Nat) (am : Nat → Nat) (S : St) (κ : Nu) (la tk be an va : Int32) (bd : Bool) (ω : Nu) (hI : Inv (sN S)) (hD : dyN (sN S) ≤ 9999) (hk : sP S = true → κ = sK S) : KI l G yX6_undo wsX6_undo ({ frames := 1, cells := 0, slots := 0, locals := 22 } : Room) [.ref o] (wMO o am (sP S) la (nI (sL S)) tk be an va bd ++ ([((am 0), .inl (gI G, 51, .inl (mm (sN S))))] ++ ([((am 1), .inl (gI G, 51, .inl (mm κ)))] ++ [((am 3), .inl (gI G, 7, .inl (sF S)))]))) (S := Unit) (fun _ => True) (fun u => (sp_undo S).1) (fun u => wMO o am (sP S) la (nI (sL S)) tk be an va bd ++ ([((am 0), .inl (gI G, 51, .inl (mm (sN (sp_undo S).2))))] ++ ([((am 1), .inl (gI G, 51, .inl (mm κ)))] ++ [((am 3), .inl (gI G, 7, .inl (sF (sp_undo S).2)))]))) := by
  rcases bcase (sP S) with hp | hp
  · have e := hk hp
    subst e
    exact c_X6_undo l G o am S la tk be an va bd ω hI hD
  · have e1 : sp_undo S = bad S 3 := if_neg (by rw [hp]; decide)
    have e2 : sp_undo (sN S, κ, S.2.2) = bad (sN S, κ, S.2.2) 3 := if_neg (by show ¬ sP S = true; rw [hp]; decide)
    have h := c_X6_undo l G o am (sN S, κ, S.2.2) la tk be an va bd ω hI hD
    rw [e2] at h
    rw [e1]
    exact h
