set_option maxRecDepth 100000 in
set_option maxHeartbeats 4000000 in
theorem c_X5_sheetAt_t (l : Launch) (G : pG) (o : Nat) (ax : Nat → Nat) (kp : Bool) (sh : Nat → Nat) (k : Nat) (hk : k < 4) : KQ l G yX5_sheetAt wsX5_sheetAt ({ frames := 1, cells := 0, slots := 0, locals := 22 } : Room) [.ref o, .int (nI k)] (wXO o ax kp ++ [((ax 6), .inl (gS G, 4, .inr (.inr (.inr (.inr (fun j => some (sh j)))))))]) (S := Unit) (fun _ => True) (fun u => some (sh k)) (fun u => wXO o ax kp ++ [((ax 6), .inl (gS G, 4, .inr (.inr (.inr (.inr (fun j => some (sh j)))))))]) := by
  refine kq_of [(0, .ref o), (1, .int (nI k))] (own := RX5) (cc := cX5_sheetAt) (nL := 2) (by decide +kernel) rfl rfl (Nat.le_of_ble_eq_true rfl) rfl (Or.inl ⟨_, rfl⟩) (fun _ => rfl) (fun K cx fin => ?_)
  refine j_iload_n 0 cx 1 dX5_sheetAt_0 rfl ?_
  refine j_iconst 1 cx 0 dX5_sheetAt_1 (by decide) ?_
  refine j_iconst 2 cx 3 dX5_sheetAt_2 (by decide) ?_
  refine j_callS_i 3 cx 3 [] [.int (nI k), .int 0, .int 3] (fun _ => wXO o ax kp ++ [((ax 6), .inl (gS G, 4, .inr (.inr (.inr (.inr (fun j => some (sh j)))))))]) (c_X5_inside (kl K) G (nI k) 0 3) gX5_sheetAt_X5_inside rfl rfl rfl ⟨by decide, by decide, rfl⟩ ⟨Nat.le_of_ble_eq_true rfl, Nat.le_of_ble_eq_true rfl⟩ ⟨Nat.zero_le _, Nat.zero_le _⟩ rfl (by decide) rfl rfl (Nat.le_of_ble_eq_true rfl) dX5_sheetAt_3 (fun _ => rfl) (fun zu1 zk1 => ?_)
  refine j_top (bI (inI (nI k) 0 3)) rfl ?_
  refine j_if_eq_F 6 cx 18 dX5_sheetAt_6 (by decide) (by rw [show inI (nI k) 0 3 = true from decide_eq_true ⟨nI_pos' (by omega), nI_le (b := 3) (by omega) (by omega)⟩]; decide) ?_
  refine j_aload_n 9 cx 0 dX5_sheetAt_9 rfl ?_
  refine j_get 10 cx 0 6 (T := TX5) (v := .ref ((ax 6))) (fun _ h => List.mem_cons_of_mem _ (List.mem_append_right _ (h))) (List.mem_of_getElem? (i := 1) rfl) (ci := 4) rfl (by decide) rfl rfl rfl dX5_sheetAt_10 ?_
  refine j_iload_n 13 cx 1 dX5_sheetAt_13 rfl ?_
  refine j_aald 14 cx 1 k rfl rfl (by omega) (by decide) dX5_sheetAt_14 ?_
  refine j_st (st' := [.ref ((sh k))]) rfl ?_
  refine j_goto 15 cx 19 dX5_sheetAt_15 (by decide) ?_
  exact fin () _ _ _ _ dX5_sheetAt_19 rfl rfl trivial
set_option maxRecDepth 100000 in
set_option maxHeartbeats 4000000 in
theorem c_X5_sheetAt_f (l : Launch) (G : pG) (o : Nat) (ax : Nat → Nat) (kp : Bool) (sh : Nat → Nat) (v : Int32) (hv : inI v 0 3 = false) : KQ l G yX5_sheetAt wsX5_sheetAt ({ frames := 1, cells := 0, slots := 0, locals := 22 } : Room) [.ref o, .int v] (wXO o ax kp ++ [((ax 6), .inl (gS G, 4, .inr (.inr (.inr (.inr (fun j => some (sh j)))))))]) (S := Unit) (fun _ => True) (fun u => none) (fun u => wXO o ax kp ++ [((ax 6), .inl (gS G, 4, .inr (.inr (.inr (.inr (fun j => some (sh j)))))))]) := by
  refine kq_of [(0, .ref o), (1, .int v)] (own := RX5) (cc := cX5_sheetAt) (nL := 2) (by decide +kernel) rfl rfl (Nat.le_of_ble_eq_true rfl) rfl (Or.inl ⟨_, rfl⟩) (fun _ => rfl) (fun K cx fin => ?_)
  refine j_iload_n 0 cx 1 dX5_sheetAt_0 rfl ?_
  refine j_iconst 1 cx 0 dX5_sheetAt_1 (by decide) ?_
  refine j_iconst 2 cx 3 dX5_sheetAt_2 (by decide) ?_
  refine j_callS_i 3 cx 3 [] [.int v, .int 0, .int 3] (fun _ => wXO o ax kp ++ [((ax 6), .inl (gS G, 4, .inr (.inr (.inr (.inr (fun j => some (sh j)))))))]) (c_X5_inside (kl K) G v 0 3) gX5_sheetAt_X5_inside rfl rfl rfl ⟨by decide, by decide, rfl⟩ ⟨Nat.le_of_ble_eq_true rfl, Nat.le_of_ble_eq_true rfl⟩ ⟨Nat.zero_le _, Nat.zero_le _⟩ rfl (by decide) rfl rfl (Nat.le_of_ble_eq_true rfl) dX5_sheetAt_3 (fun _ => rfl) (fun zu1 zk1 => ?_)
  refine j_top (bI (inI v 0 3)) rfl ?_
  refine j_if_eq_T 6 cx 18 dX5_sheetAt_6 (by decide) (by rw [hv]; rfl) ?_
  refine j_null 18 cx dX5_sheetAt_18 ?_
  exact fin () _ _ _ _ dX5_sheetAt_19 rfl rfl trivial
