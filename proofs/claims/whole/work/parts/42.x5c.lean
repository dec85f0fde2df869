set_option maxRecDepth 100000 in
set_option maxHeartbeats 4000000 in
theorem c_X5_done (l : Launch) (G : pG) (o : Nat) (ax : Nat → Nat) (qh qt qk : Nat → Nat) (S : St) (τ : Nu) (hI : Inv (sN S)) (hD : dyN (sN S) ≤ 9999) (p : Int32) : KI l G yX5_done wsX5_done ({ frames := 6, cells := 0, slots := 0, locals := 141 } : Room) [.ref o, .int p] (wXO o ax (sP S) ++ ([((ax 7), .inl (gI G, 7, .inl (sF S)))] ++ (wN G (ax 1) qh (sN S) ++ wN G (ax 2) qt τ))) (S := Nu) (fun _ => True) (fun u => (sp_done p S).1) (fun u => wXO o ax (sP S) ++ ([((ax 7), .inl (gI G, 7, .inl (sF (sp_done p S).2)))] ++ (wN G (ax 1) qh (sN (sp_done p S).2) ++ wN G (ax 2) qt u))) := by
  refine ki_of [(0, .ref o), (1, .int p)] (own := RX5) (cc := cX5_done) (nL := 2) (by decide +kernel) rfl rfl (Nat.le_of_ble_eq_true rfl) rfl (fun _ => rfl) (fun K cx fin => ?_)
  refine j_aload_n 0 cx 0 dX5_done_0 rfl ?_
  refine j_iload_n 1 cx 1 dX5_done_1 rfl ?_
  refine j_callV_i 2 cx 1 [0, 2, 3, 4, 5, 6, 7, 8] [.int p] (fun _ => wXO o ax (sP S) ++ ([((ax 7), .inl (gI G, 7, .inl (sF S)))] ++ (wN G (ax 1) qh (sN S) ++ wN G (ax 2) qt τ))) (c_X5_hasPart (kl K) G o ax (sP S) qh (sN S) p hI) gX5_done_X5_hasPart rfl rfl rfl ⟨rfl, by decide, by decide, rfl⟩ ⟨Nat.le_of_ble_eq_true rfl, Nat.le_of_ble_eq_true rfl⟩ ⟨Nat.zero_le _, Nat.zero_le _⟩ rfl (by decide) (ci := 4) 0 rfl rfl rfl rfl rfl (Nat.le_of_ble_eq_true rfl) dX5_done_2 (fun _ => rfl) (fun zu1 zk1 => ?_)
  refine j_top (bI (inI p 0 (nI (szN (sN S)) - 1))) rfl ?_
  refine j_ifB_ne 5 cx 15 dX5_done_5 (by decide) (fun zc1 => ?_) (fun zc1 => ?_)
  · skip
    obtain ⟨k, hk, rfl⟩ := in_n (by have := hI.sz8; omega) zc1
    have h8 := hI.sz8
    have hkc : (nI k).toNatClampNeg = k := nI_clamp (by omega)
    refine j_aload_n 15 cx 0 dX5_done_15 rfl ?_
    refine j_aload_n 16 cx 0 dX5_done_16 rfl ?_
    refine j_callV_q 17 cx 0 [0, 2, 3, 4, 5, 6, 7, 8, 9, 10, 11, 12, 13, 14, 15] [] (fun _ => wXO o ax (sP S) ++ ([((ax 7), .inl (gI G, 7, .inl (sF S)))] ++ (wN G (ax 1) qh (sN S) ++ wN G (ax 2) qt (sN S)))) (c_X5_rehearsal (kl K) G o ax (sP S) qh qt (sN S) τ) gX5_done_X5_rehearsal rfl rfl rfl ⟨rfl, by decide, by decide, rfl⟩ ⟨Nat.le_of_ble_eq_true rfl, Nat.le_of_ble_eq_true rfl⟩ ⟨Nat.zero_le _, Nat.zero_le _⟩ rfl (by decide) (ci := 4) 0 rfl rfl rfl rfl rfl (Nat.le_of_ble_eq_true rfl) dX5_done_17 (fun _ => rfl) (fun zu2 zk2 => ?_)
    refine j_st (st' := [.ref ((ax 2)), .ref o]) rfl ?_
    refine j_iload_n 20 cx 1 dX5_done_20 rfl ?_
    refine j_sipush 21 cx 400 dX5_done_21 (by decide) ?_
    refine j_callV_i 24 cx 2 [9, 10, 11, 12, 13, 14, 15] [.int (nI k), .int 400] (fun zu3 => wXO o ax (sP S) ++ ([((ax 7), .inl (gI G, 7, .inl (sF S)))] ++ (wN G (ax 1) qh (sN S) ++ wN G (ax 2) qt zu3))) (c_X1_daysTillDone (kl K) G (ax 2) qt (sN S) hI k (by omega) 400 (by omega) (by have := hD; omega)) gX5_done_X1_daysTillDone rfl rfl rfl ⟨rfl, by decide, by decide, rfl⟩ ⟨Nat.le_of_ble_eq_true rfl, Nat.le_of_ble_eq_true rfl⟩ ⟨Nat.zero_le _, Nat.zero_le _⟩ rfl (by decide) (ci := 0) 0 rfl rfl rfl rfl rfl (Nat.le_of_ble_eq_true rfl) dX5_done_24 (fun _ => rfl) (fun zu3 zk3 => ?_)
    refine j_top (tR 400 (till (gDone k) 400 (sN S))) rfl ?_
    refine j_callV_i 27 cx 1 [0, 1] [.int (tR 400 (till (gDone k) 400 (sN S)))] (fun _ => wXO o ax (sP S) ++ ([((ax 7), .inl (gI G, 7, .inl (dF 400 (till (gDone k) 400 (sN S)) (sF S))))] ++ (wN G (ax 1) qh (sN S) ++ wN G (ax 2) qt zu3))) (c_X5_daysOrNone (kl K) G o ax (sP S) (sF S) 400 (till (gDone k) 400 (sN S)) (by omega)) gX5_done_X5_daysOrNone rfl rfl rfl ⟨rfl, by decide, by decide, rfl⟩ ⟨Nat.le_of_ble_eq_true rfl, Nat.le_of_ble_eq_true rfl⟩ ⟨Nat.zero_le _, Nat.zero_le _⟩ rfl (by decide) (ci := 4) 0 rfl rfl rfl rfl rfl (Nat.le_of_ble_eq_true rfl) dX5_done_27 (fun _ => rfl) (fun zu5 zk4 => ?_)
    refine j_top (dN 400 (till (gDone k) 400 (sN S))) rfl ?_
    have ze : (sp_done (nI k) S) = (dN 400 (till (gDone k) 400 (sN S)), stF S (dF 400 (till (gDone k) 400 (sN S)) (sF S))) := by unfold sp_done; simp [isP_eq hI, orN_eq, zc1, hkc]
    exact fin zu3 _ _ _ _ dX5_done_30 rfl (by rw [ze] <;> rfl) (by rw [ze] <;> rfl) trivial
  · skip
    refine j_aload_n 8 cx 0 dX5_done_8 rfl ?_
    refine j_ldc 9 cx (v := -1000000001) (List.mem_of_getElem? (i := 1) rfl) dX5_done_9 ?_
    refine j_callV_i 11 cx 1 [0, 1] [.int (fcode 0)] (fun _ => wXO o ax (sP S) ++ ([((ax 7), .inl (gI G, 7, .inl (upd (sF S) 0 ((sF S) 0 + 1))))] ++ (wN G (ax 1) qh (sN S) ++ wN G (ax 2) qt τ))) (c_X5_finding (kl K) G o ax (sP S) (sF S) 0 (by decide)) gX5_done_X5_finding rfl rfl rfl ⟨rfl, by decide, by decide, rfl⟩ ⟨Nat.le_of_ble_eq_true rfl, Nat.le_of_ble_eq_true rfl⟩ ⟨Nat.zero_le _, Nat.zero_le _⟩ rfl (by decide) (ci := 4) 0 rfl rfl rfl rfl rfl (Nat.le_of_ble_eq_true rfl) dX5_done_11 (fun _ => rfl) (fun zu6 zk5 => ?_)
    refine j_top (fcode 0) rfl ?_
    have ze : (sp_done p S) = bad S 0 := by unfold sp_done; simp [isP_eq hI, orN_eq, zc1]
    exact fin τ _ _ _ _ dX5_done_14 rfl (by rw [ze] <;> rfl) (by rw [ze] <;> rfl) trivial
set_option maxRecDepth 100000 in
set_option maxHeartbeats 4000000 in
theorem c_X5_all (l : Launch) (G : pG) (o : Nat) (ax : Nat → Nat) (qh qt qk : Nat → Nat) (S : St) (τ : Nu) (hI : Inv (sN S)) (hD : dyN (sN S) ≤ 9999)  : KI l G yX5_all wsX5_all ({ frames := 6, cells := 0, slots := 0, locals := 140 } : Room) [.ref o] (wXO o ax (sP S) ++ ([((ax 7), .inl (gI G, 7, .inl (sF S)))] ++ (wN G (ax 1) qh (sN S) ++ wN G (ax 2) qt τ))) (S := Nu) (fun _ => True) (fun u => (sp_all S).1) (fun u => wXO o ax (sP S) ++ ([((ax 7), .inl (gI G, 7, .inl (sF (sp_all S).2)))] ++ (wN G (ax 1) qh (sN (sp_all S).2) ++ wN G (ax 2) qt u))) := by
  refine ki_of [(0, .ref o)] (own := RX5) (cc := cX5_all) (nL := 1) (by decide +kernel) rfl rfl (Nat.le_of_ble_eq_true rfl) rfl (fun _ => rfl) (fun K cx fin => ?_)
  refine j_aload_n 0 cx 0 dX5_all_0 rfl ?_
  refine j_aload_n 1 cx 0 dX5_all_1 rfl ?_
  refine j_callV_q 2 cx 0 [0, 2, 3, 4, 5, 6, 7, 8, 9, 10, 11, 12, 13, 14, 15] [] (fun _ => wXO o ax (sP S) ++ ([((ax 7), .inl (gI G, 7, .inl (sF S)))] ++ (wN G (ax 1) qh (sN S) ++ wN G (ax 2) qt (sN S)))) (c_X5_rehearsal (kl K) G o ax (sP S) qh qt (sN S) τ) gX5_all_X5_rehearsal rfl rfl rfl ⟨rfl, by decide, by decide, rfl⟩ ⟨Nat.le_of_ble_eq_true rfl, Nat.le_of_ble_eq_true rfl⟩ ⟨Nat.zero_le _, Nat.zero_le _⟩ rfl (by decide) (ci := 4) 0 rfl rfl rfl rfl rfl (Nat.le_of_ble_eq_true rfl) dX5_all_2 (fun _ => rfl) (fun zu1 zk1 => ?_)
  refine j_st (st' := [.ref ((ax 2)), .ref o]) rfl ?_
  refine j_sipush 5 cx 400 dX5_all_5 (by decide) ?_
  refine j_callV_i 8 cx 1 [9, 10, 11, 12, 13, 14, 15] [.int 400] (fun zu2 => wXO o ax (sP S) ++ ([((ax 7), .inl (gI G, 7, .inl (sF S)))] ++ (wN G (ax 1) qh (sN S) ++ wN G (ax 2) qt zu2))) (c_X1_daysTillAllDone (kl K) G (ax 2) qt (sN S) hI hI.sz8 400 (by omega) (by have := hD; omega)) gX5_all_X1_daysTillAllDone rfl rfl rfl ⟨rfl, by decide, by decide, rfl⟩ ⟨Nat.le_of_ble_eq_true rfl, Nat.le_of_ble_eq_true rfl⟩ ⟨Nat.zero_le _, Nat.zero_le _⟩ rfl (by decide) (ci := 0) 0 rfl rfl rfl rfl rfl (Nat.le_of_ble_eq_true rfl) dX5_all_8 (fun _ => rfl) (fun zu2 zk2 => ?_)
  refine j_top (tR 400 (till gAll 400 (sN S))) rfl ?_
  refine j_callV_i 11 cx 1 [0, 1] [.int (tR 400 (till gAll 400 (sN S)))] (fun _ => wXO o ax (sP S) ++ ([((ax 7), .inl (gI G, 7, .inl (dF 400 (till gAll 400 (sN S)) (sF S))))] ++ (wN G (ax 1) qh (sN S) ++ wN G (ax 2) qt zu2))) (c_X5_daysOrNone (kl K) G o ax (sP S) (sF S) 400 (till gAll 400 (sN S)) (by omega)) gX5_all_X5_daysOrNone rfl rfl rfl ⟨rfl, by decide, by decide, rfl⟩ ⟨Nat.le_of_ble_eq_true rfl, Nat.le_of_ble_eq_true rfl⟩ ⟨Nat.zero_le _, Nat.zero_le _⟩ rfl (by decide) (ci := 4) 0 rfl rfl rfl rfl rfl (Nat.le_of_ble_eq_true rfl) dX5_all_11 (fun _ => rfl) (fun zu4 zk3 => ?_)
  refine j_top (dN 400 (till gAll 400 (sN S))) rfl ?_
  have ze : (sp_all S) = (dN 400 (till gAll 400 (sN S)), stF S (dF 400 (till gAll 400 (sN S)) (sF S))) := by unfold sp_all; simp [isP_eq hI, orN_eq]
  exact fin zu2 _ _ _ _ dX5_all_14 rfl (by rw [ze] <;> rfl) (by rw [ze] <;> rfl) trivial
set_option maxRecDepth 100000 in
set_option maxHeartbeats 4000000 in
theorem c_X5_played (l : Launch) (G : pG) (o : Nat) (ax : Nat → Nat) (qh qt qk : Nat → Nat) (S : St) (τ : Nu) (hI : Inv (sN S)) (hD : dyN (sN S) ≤ 9999) (p : Int32) : KI l G yX5_played wsX5_played ({ frames := 6, cells := 0, slots := 0, locals := 141 } : Room) [.ref o, .int p] (wXO o ax (sP S) ++ ([((ax 7), .inl (gI G, 7, .inl (sF S)))] ++ (wN G (ax 1) qh (sN S) ++ wN G (ax 2) qt τ))) (S := Nu) (fun _ => True) (fun u => (sp_played p S).1) (fun u => wXO o ax (sP S) ++ ([((ax 7), .inl (gI G, 7, .inl (sF (sp_played p S).2)))] ++ (wN G (ax 1) qh (sN (sp_played p S).2) ++ wN G (ax 2) qt u))) := by
  refine ki_of [(0, .ref o), (1, .int p)] (own := RX5) (cc := cX5_played) (nL := 2) (by decide +kernel) rfl rfl (Nat.le_of_ble_eq_true rfl) rfl (fun _ => rfl) (fun K cx fin => ?_)
  refine j_aload_n 0 cx 0 dX5_played_0 rfl ?_
  refine j_iload_n 1 cx 1 dX5_played_1 rfl ?_
  refine j_callV_i 2 cx 1 [0, 2, 3, 4, 5, 6, 7, 8] [.int p] (fun _ => wXO o ax (sP S) ++ ([((ax 7), .inl (gI G, 7, .inl (sF S)))] ++ (wN G (ax 1) qh (sN S) ++ wN G (ax 2) qt τ))) (c_X5_hasPart (kl K) G o ax (sP S) qh (sN S) p hI) gX5_played_X5_hasPart rfl rfl rfl ⟨rfl, by decide, by decide, rfl⟩ ⟨Nat.le_of_ble_eq_true rfl, Nat.le_of_ble_eq_true rfl⟩ ⟨Nat.zero_le _, Nat.zero_le _⟩ rfl (by decide) (ci := 4) 0 rfl rfl rfl rfl rfl (Nat.le_of_ble_eq_true rfl) dX5_played_2 (fun _ => rfl) (fun zu1 zk1 => ?_)
  refine j_top (bI (inI p 0 (nI (szN (sN S)) - 1))) rfl ?_
  refine j_ifB_ne 5 cx 15 dX5_played_5 (by decide) (fun zc1 => ?_) (fun zc1 => ?_)
  · skip
    obtain ⟨k, hk, rfl⟩ := in_n (by have := hI.sz8; omega) zc1
    have h8 := hI.sz8
    have hkc : (nI k).toNatClampNeg = k := nI_clamp (by omega)
    refine j_aload_n 15 cx 0 dX5_played_15 rfl ?_
    refine j_aload_n 16 cx 0 dX5_played_16 rfl ?_
    refine j_callV_q 17 cx 0 [0, 2, 3, 4, 5, 6, 7, 8, 9, 10, 11, 12, 13, 14, 15] [] (fun _ => wXO o ax (sP S) ++ ([((ax 7), .inl (gI G, 7, .inl (sF S)))] ++ (wN G (ax 1) qh (sN S) ++ wN G (ax 2) qt (sN S)))) (c_X5_rehearsal (kl K) G o ax (sP S) qh qt (sN S) τ) gX5_played_X5_rehearsal rfl rfl rfl ⟨rfl, by decide, by decide, rfl⟩ ⟨Nat.le_of_ble_eq_true rfl, Nat.le_of_ble_eq_true rfl⟩ ⟨Nat.zero_le _, Nat.zero_le _⟩ rfl (by decide) (ci := 4) 0 rfl rfl rfl rfl rfl (Nat.le_of_ble_eq_true rfl) dX5_played_17 (fun _ => rfl) (fun zu2 zk2 => ?_)
    refine j_st (st' := [.ref ((ax 2)), .ref o]) rfl ?_
    refine j_iload_n 20 cx 1 dX5_played_20 rfl ?_
    refine j_sipush 21 cx 400 dX5_played_21 (by decide) ?_
    refine j_callV_i 24 cx 2 [9, 10, 11, 12, 13, 14, 15] [.int (nI k), .int 400] (fun zu3 => wXO o ax (sP S) ++ ([((ax 7), .inl (gI G, 7, .inl (sF S)))] ++ (wN G (ax 1) qh (sN S) ++ wN G (ax 2) qt zu3))) (c_X1_daysTillPlayed (kl K) G (ax 2) qt (sN S) hI k (by omega) 400 (by omega) (by omega) (by have := hD; omega)) gX5_played_X1_daysTillPlayed rfl rfl rfl ⟨rfl, by decide, by decide, rfl⟩ ⟨Nat.le_of_ble_eq_true rfl, Nat.le_of_ble_eq_true rfl⟩ ⟨Nat.zero_le _, Nat.zero_le _⟩ rfl (by decide) (ci := 0) 0 rfl rfl rfl rfl rfl (Nat.le_of_ble_eq_true rfl) dX5_played_24 (fun _ => rfl) (fun zu3 zk3 => ?_)
    refine j_top (tR 400 (till (gPl k) (400 - 1) (sN S) + 1)) rfl ?_
    refine j_callV_i 27 cx 1 [0, 1] [.int (tR 400 (till (gPl k) (400 - 1) (sN S) + 1))] (fun _ => wXO o ax (sP S) ++ ([((ax 7), .inl (gI G, 7, .inl (dF 400 (till (gPl k) (400 - 1) (sN S) + 1) (sF S))))] ++ (wN G (ax 1) qh (sN S) ++ wN G (ax 2) qt zu3))) (c_X5_daysOrNone (kl K) G o ax (sP S) (sF S) 400 (till (gPl k) (400 - 1) (sN S) + 1) (by omega)) gX5_played_X5_daysOrNone rfl rfl rfl ⟨rfl, by decide, by decide, rfl⟩ ⟨Nat.le_of_ble_eq_true rfl, Nat.le_of_ble_eq_true rfl⟩ ⟨Nat.zero_le _, Nat.zero_le _⟩ rfl (by decide) (ci := 4) 0 rfl rfl rfl rfl rfl (Nat.le_of_ble_eq_true rfl) dX5_played_27 (fun _ => rfl) (fun zu5 zk4 => ?_)
    refine j_top (dN 400 (till (gPl k) (400 - 1) (sN S) + 1)) rfl ?_
    have ze : (sp_played (nI k) S) = (dN 400 (till (gPl k) (400 - 1) (sN S) + 1), stF S (dF 400 (till (gPl k) (400 - 1) (sN S) + 1) (sF S))) := by unfold sp_played; simp [isP_eq hI, orN_eq, zc1, hkc]
    exact fin zu3 _ _ _ _ dX5_played_30 rfl (by rw [ze] <;> rfl) (by rw [ze] <;> rfl) trivial
  · skip
    refine j_aload_n 8 cx 0 dX5_played_8 rfl ?_
    refine j_ldc 9 cx (v := -1000000001) (List.mem_of_getElem? (i := 1) rfl) dX5_played_9 ?_
    refine j_callV_i 11 cx 1 [0, 1] [.int (fcode 0)] (fun _ => wXO o ax (sP S) ++ ([((ax 7), .inl (gI G, 7, .inl (upd (sF S) 0 ((sF S) 0 + 1))))] ++ (wN G (ax 1) qh (sN S) ++ wN G (ax 2) qt τ))) (c_X5_finding (kl K) G o ax (sP S) (sF S) 0 (by decide)) gX5_played_X5_finding rfl rfl rfl ⟨rfl, by decide, by decide, rfl⟩ ⟨Nat.le_of_ble_eq_true rfl, Nat.le_of_ble_eq_true rfl⟩ ⟨Nat.zero_le _, Nat.zero_le _⟩ rfl (by decide) (ci := 4) 0 rfl rfl rfl rfl rfl (Nat.le_of_ble_eq_true rfl) dX5_played_11 (fun _ => rfl) (fun zu6 zk5 => ?_)
    refine j_top (fcode 0) rfl ?_
    have ze : (sp_played p S) = bad S 0 := by unfold sp_played; simp [isP_eq hI, orN_eq, zc1]
    exact fin τ _ _ _ _ dX5_played_14 rfl (by rw [ze] <;> rfl) (by rw [ze] <;> rfl) trivial
set_option maxRecDepth 100000 in
set_option maxHeartbeats 4000000 in
theorem c_X5_wipe (l : Launch) (G : pG) (o : Nat) (ax : Nat → Nat) (qh qt qk : Nat → Nat) (S : St) (τ : Nu) (hI : Inv (sN S)) (hD : dyN (sN S) ≤ 9999)  : KI l G yX5_wipe wsX5_wipe ({ frames := 0, cells := 0, slots := 0, locals := 0 } : Room) [.ref o] (wXO o ax (sP S) ++ wTP ax (nI (sL S))) (S := Unit) (fun _ => True) (fun u => (sp_wipe S).1) (fun u => wXO o ax (sP S) ++ wTP ax (nI (sL (sp_wipe S).2))) := by
  refine ki_of [(0, .ref o)] (own := RX5) (cc := cX5_wipe) (nL := 2) (by decide +kernel) rfl rfl (Nat.le_of_ble_eq_true rfl) rfl (fun _ => rfl) (fun K cx fin => ?_)
  refine j_aload_n 0 cx 0 dX5_wipe_0 rfl ?_
  refine j_get 1 cx 0 4 (T := TX5) (v := .ref ((ax 4))) (fun _ h => List.mem_cons_of_mem _ (List.mem_append_left _ (List.mem_append_right _ (h)))) (List.mem_of_getElem? (i := 1) rfl) (ci := 4) rfl (by decide) rfl rfl rfl dX5_wipe_1 ?_
  refine j_get 4 cx 1 1 (T := TX4) (v := .int (nI (sL S))) (fun _ h => List.mem_cons_of_mem _ (List.mem_append_right _ (h))) (List.mem_of_getElem? (i := 2) rfl) (ci := 3) rfl (by decide) rfl rfl rfl dX5_wipe_4 ?_
  refine j_istore_n 7 cx [(1, .int (nI (sL S))), (0, .ref o)] dX5_wipe_7 (by decide) rfl ?_
  refine j_aload_n 8 cx 1 dX5_wipe_8 rfl ?_
  refine j_get 9 cx 0 4 (T := TX5) (v := .ref ((ax 4))) (fun _ h => List.mem_cons_of_mem _ (List.mem_append_left _ (List.mem_append_right _ (h)))) (List.mem_of_getElem? (i := 1) rfl) (ci := 4) rfl (by decide) rfl rfl rfl dX5_wipe_9 ?_
  refine j_iconst 12 cx 0 dX5_wipe_12 (by decide) ?_
  refine j_put 13 cx 1 1 (wXO o ax (sP S) ++ wTP ax 0) (T := TX4) (ty0 := tyX4) (fun _ h => List.mem_cons_of_mem _ (List.mem_append_right _ (h))) (List.mem_of_getElem? (i := 2) rfl) (ci := 3) rfl (by decide) rfl tyX4_ok nmX4 rfl rfl rfl rfl (Nat.le_of_ble_eq_true rfl) rfl dX5_wipe_13 ?_
  refine j_iload_n 16 cx 0 dX5_wipe_16 rfl ?_
  have ze : (sp_wipe S) = (nI (sL S), stT S (sT S) 0) := by unfold sp_wipe; simp []
  exact fin () _ _ _ _ dX5_wipe_17 rfl (by rw [ze] <;> rfl) (by rw [ze] <;> rfl) trivial
set_option maxRecDepth 100000 in
set_option maxHeartbeats 4000000 in
theorem c_X5_image (l : Launch) (G : pG) (o : Nat) (ax : Nat → Nat) (qh qt qk : Nat → Nat) (S : St) (τ : Nu) (hI : Inv (sN S)) (hD : dyN (sN S) ≤ 9999)  : KI l G yX5_image wsX5_image ({ frames := 2, cells := 0, slots := 0, locals := 47 } : Room) [.ref o] (wXO o ax (sP S) ++ (wN G (ax 1) qh (sN S) ++ wN G (ax 3) qk (sK S))) (S := Unit) (fun _ => True) (fun u => (sp_image S).1) (fun u => wXO o ax (sP (sp_image S).2) ++ (wN G (ax 1) qh (sN S) ++ wN G (ax 3) qk (sK (sp_image S).2))) := by
  refine ki_of [(0, .ref o)] (own := RX5) (cc := cX5_image) (nL := 1) (by decide +kernel) rfl rfl (Nat.le_of_ble_eq_true rfl) rfl (fun _ => rfl) (fun K cx fin => ?_)
  refine j_aload_n 0 cx 0 dX5_image_0 rfl ?_
  refine j_get 1 cx 0 2 (T := TX5) (v := .ref ((ax 3))) (fun _ h => List.mem_cons_of_mem _ (List.mem_append_left _ (List.mem_append_right _ (h)))) (List.mem_of_getElem? (i := 1) rfl) (ci := 4) rfl (by decide) rfl rfl rfl dX5_image_1 ?_
  refine j_aload_n 4 cx 0 dX5_image_4 rfl ?_
  refine j_get 5 cx 0 0 (T := TX5) (v := .ref ((ax 1))) (fun _ h => List.mem_cons_of_mem _ (List.mem_append_left _ (List.mem_append_right _ (h)))) (List.mem_of_getElem? (i := 2) rfl) (ci := 4) rfl (by decide) rfl rfl rfl dX5_image_5 ?_
  refine j_callV_v 8 cx 1 [8, 9, 10, 11, 12, 13, 14, 1, 2, 3, 4, 5, 6, 7] [.ref ((ax 1))] (fun _ => wXO o ax (sP S) ++ (wN G (ax 1) qh (sN S) ++ wN G (ax 3) qk (sN S))) (c_X1_become (kl K) G (ax 3) qk (sK S) (ax 1) qh (sN S)) gX5_image_X1_become rfl rfl rfl ⟨rfl, by decide, by decide, rfl⟩ ⟨Nat.le_of_ble_eq_true rfl, Nat.le_of_ble_eq_true rfl⟩ ⟨Nat.zero_le _, Nat.zero_le _⟩ rfl (by decide) (ci := 0) 0 rfl rfl rfl rfl rfl (Nat.le_of_ble_eq_true rfl) dX5_image_8 (fun _ => rfl) (fun zu1 zk1 => ?_)
  refine j_aload_n 11 cx 0 dX5_image_11 rfl ?_
  refine j_iconst 12 cx 1 dX5_image_12 (by decide) ?_
  refine j_put 13 cx 0 3 (wXO o ax true ++ (wN G (ax 1) qh (sN S) ++ wN G (ax 3) qk (sN S))) (T := TX5) (ty0 := tyX5) (fun _ h => List.mem_cons_of_mem _ (List.mem_append_left _ (List.mem_append_right _ (h)))) (List.mem_of_getElem? (i := 3) rfl) (ci := 4) rfl (by decide) rfl tyX5_ok nmX5 rfl rfl rfl rfl (Nat.le_of_ble_eq_true rfl) rfl dX5_image_13 ?_
  refine j_iconst 16 cx 1 dX5_image_16 (by decide) ?_
  have ze : (sp_image S) = (1, stK S (sN S) true) := by unfold sp_image; simp []
  exact fin () _ _ _ _ dX5_image_17 rfl (by rw [ze] <;> rfl) (by rw [ze] <;> rfl) trivial
set_option maxRecDepth 100000 in
set_option maxHeartbeats 4000000 in
theorem c_X5_undo (l : Launch) (G : pG) (o : Nat) (ax : Nat → Nat) (qh qt qk : Nat → Nat) (S : St) (τ : Nu) (hI : Inv (sN S)) (hD : dyN (sN S) ≤ 9999)  : KI l G yX5_undo wsX5_undo ({ frames := 2, cells := 0, slots := 0, locals := 47 } : Room) [.ref o] (wXO o ax (sP S) ++ ([((ax 7), .inl (gI G, 7, .inl (sF S)))] ++ (wN G (ax 1) qh (sN S) ++ wN G (ax 3) qk (sK S)))) (S := Unit) (fun _ => True) (fun u => (sp_undo S).1) (fun u => wXO o ax (sP S) ++ ([((ax 7), .inl (gI G, 7, .inl (sF (sp_undo S).2)))] ++ (wN G (ax 1) qh (sN (sp_undo S).2) ++ wN G (ax 3) qk (sK S)))) := by
  refine ki_of [(0, .ref o)] (own := RX5) (cc := cX5_undo) (nL := 1) (by decide +kernel) rfl rfl (Nat.le_of_ble_eq_true rfl) rfl (fun _ => rfl) (fun K cx fin => ?_)
  refine j_aload_n 0 cx 0 dX5_undo_0 rfl ?_
  refine j_get 1 cx 0 3 (T := TX5) (v := .int (bI ((sP S)))) (fun _ h => List.mem_cons_of_mem _ (List.mem_append_left _ (List.mem_append_right _ (h)))) (List.mem_of_getElem? (i := 1) rfl) (ci := 4) rfl (by decide) rfl rfl rfl dX5_undo_1 ?_
  refine j_ifB_ne 4 cx 14 dX5_undo_4 (by decide) (fun zc1 => ?_) (fun zc1 => ?_)
  · skip
    refine j_aload_n 14 cx 0 dX5_undo_14 rfl ?_
    refine j_get 15 cx 0 0 (T := TX5) (v := .ref ((ax 1))) (fun _ h => List.mem_cons_of_mem _ (List.mem_append_left _ (List.mem_append_right _ (h)))) (List.mem_of_getElem? (i := 3) rfl) (ci := 4) rfl (by decide) rfl rfl rfl dX5_undo_15 ?_
    refine j_aload_n 18 cx 0 dX5_undo_18 rfl ?_
    refine j_get 19 cx 0 2 (T := TX5) (v := .ref ((ax 3))) (fun _ h => List.mem_cons_of_mem _ (List.mem_append_left _ (List.mem_append_right _ (h)))) (List.mem_of_getElem? (i := 4) rfl) (ci := 4) rfl (by decide) rfl rfl rfl dX5_undo_19 ?_
    refine j_callV_v 22 cx 1 [2, 3, 4, 5, 6, 7, 8, 9, 10, 11, 12, 13, 14, 15] [.ref ((ax 3))] (fun _ => wXO o ax (sP S) ++ ([((ax 7), .inl (gI G, 7, .inl (sF S)))] ++ (wN G (ax 1) qh (sK S) ++ wN G (ax 3) qk (sK S)))) (c_X1_become (kl K) G (ax 1) qh (sN S) (ax 3) qk (sK S)) gX5_undo_X1_become rfl rfl rfl ⟨rfl, by decide, by decide, rfl⟩ ⟨Nat.le_of_ble_eq_true rfl, Nat.le_of_ble_eq_true rfl⟩ ⟨Nat.zero_le _, Nat.zero_le _⟩ rfl (by decide) (ci := 0) 0 rfl rfl rfl rfl rfl (Nat.le_of_ble_eq_true rfl) dX5_undo_22 (fun _ => rfl) (fun zu1 zk1 => ?_)
    refine j_aload_n 25 cx 0 dX5_undo_25 rfl ?_
    refine j_get 26 cx 0 0 (T := TX5) (v := .ref ((ax 1))) (fun _ h => List.mem_cons_of_mem _ (List.mem_append_left _ (List.mem_append_right _ (h)))) (List.mem_of_getElem? (i := 3) rfl) (ci := 4) rfl (by decide) rfl rfl rfl dX5_undo_26 ?_
    refine j_get 29 cx 2 3 (T := TX1) (v := .int ((sK S) 0 3)) (fun _ h => List.mem_cons_of_mem _ (List.mem_append_right _ (h))) (List.mem_of_getElem? (i := 5) rfl) (ci := 0) rfl (by decide) rfl rfl rfl dX5_undo_29 ?_
    have ze : (sp_undo S) = ((sK S) 0 3, stN S (sK S)) := by unfold sp_undo; simp [zc1]
    exact fin () _ _ _ _ dX5_undo_32 rfl (by rw [ze] <;> rfl) (by rw [ze] <;> rfl) trivial
  · skip
    refine j_aload_n 7 cx 0 dX5_undo_7 rfl ?_
    refine j_ldc 8 cx (v := -1000000004) (List.mem_of_getElem? (i := 2) rfl) dX5_undo_8 ?_
    refine j_callV_i 10 cx 1 [0, 1] [.int (fcode 3)] (fun _ => wXO o ax (sP S) ++ ([((ax 7), .inl (gI G, 7, .inl (upd (sF S) 3 ((sF S) 3 + 1))))] ++ (wN G (ax 1) qh (sN S) ++ wN G (ax 3) qk (sK S)))) (c_X5_finding (kl K) G o ax (sP S) (sF S) 3 (by decide)) gX5_undo_X5_finding rfl rfl rfl ⟨rfl, by decide, by decide, rfl⟩ ⟨Nat.le_of_ble_eq_true rfl, Nat.le_of_ble_eq_true rfl⟩ ⟨Nat.zero_le _, Nat.zero_le _⟩ rfl (by decide) (ci := 4) 0 rfl rfl rfl rfl rfl (Nat.le_of_ble_eq_true rfl) dX5_undo_10 (fun _ => rfl) (fun zu2 zk2 => ?_)
    refine j_top (fcode 3) rfl ?_
    have ze : (sp_undo S) = bad S 3 := by unfold sp_undo; simp [zc1]
    exact fin () _ _ _ _ dX5_undo_13 rfl (by rw [ze] <;> rfl) (by rw [ze] <;> rfl) trivial
set_option maxRecDepth 100000 in
set_option maxHeartbeats 4000000 in
theorem c_X5_tear (l : Launch) (G : pG) (o : Nat) (ax : Nat → Nat) (qh qt qk : Nat → Nat) (S : St) (τ : Nu) (hI : Inv (sN S)) (hD : dyN (sN S) ≤ 9999)  : KI l G yX5_tear wsX5_tear ({ frames := 1, cells := 0, slots := 0, locals := 20 } : Room) [.ref o] (wXO o ax (sP S)) (S := Unit) (fun _ => True) (fun u => (sp_tear S).1) (fun u => wXO o ax (sP (sp_tear S).2)) := by
  refine ki_of [(0, .ref o)] (own := RX5) (cc := cX5_tear) (nL := 2) (by decide +kernel) rfl rfl (Nat.le_of_ble_eq_true rfl) rfl (fun _ => rfl) (fun K cx fin => ?_)
  refine j_aload_n 0 cx 0 dX5_tear_0 rfl ?_
  refine j_get 1 cx 0 3 (T := TX5) (v := .int (bI ((sP S)))) (fun _ h => List.mem_cons_of_mem _ (List.mem_append_right _ (h))) (List.mem_of_getElem? (i := 1) rfl) (ci := 4) rfl (by decide) rfl rfl rfl dX5_tear_1 ?_
  refine j_callS_i 4 cx 1 [] [.int (bI ((sP S)))] (fun _ => wXO o ax (sP S)) (c_X5_bit (kl K) G (sP S)) gX5_tear_X5_bit rfl rfl rfl ⟨by decide, by decide, rfl⟩ ⟨Nat.le_of_ble_eq_true rfl, Nat.le_of_ble_eq_true rfl⟩ ⟨Nat.zero_le _, Nat.zero_le _⟩ rfl (by decide) rfl rfl (Nat.le_of_ble_eq_true rfl) dX5_tear_4 (fun _ => rfl) (fun zu1 zk1 => ?_)
  refine j_top (bI ((sP S))) rfl ?_
  refine j_istore_n 7 cx [(1, .int (bI ((sP S)))), (0, .ref o)] dX5_tear_7 (by decide) rfl ?_
  refine j_aload_n 8 cx 1 dX5_tear_8 rfl ?_
  refine j_iconst 9 cx 0 dX5_tear_9 (by decide) ?_
  refine j_put 10 cx 0 3 (wXO o ax false) (T := TX5) (ty0 := tyX5) (fun _ h => List.mem_cons_of_mem _ (List.mem_append_right _ (h))) (List.mem_of_getElem? (i := 1) rfl) (ci := 4) rfl (by decide) rfl tyX5_ok nmX5 rfl rfl rfl rfl (Nat.le_of_ble_eq_true rfl) rfl dX5_tear_10 ?_
  refine j_iload_n 13 cx 0 dX5_tear_13 rfl ?_
  have ze : (sp_tear S) = (bI ((sP S)), stK S (sK S) false) := by unfold sp_tear; simp []
  exact fin () _ _ _ _ dX5_tear_14 rfl (by rw [ze] <;> rfl) (by rw [ze] <;> rfl) trivial
set_option maxRecDepth 100000 in
set_option maxHeartbeats 4000000 in
theorem c_X5_count (l : Launch) (G : pG) (o : Nat) (ax : Nat → Nat) (qh qt qk : Nat → Nat) (S : St) (τ : Nu) (hI : Inv (sN S)) (hD : dyN (sN S) ≤ 9999) (w : Int32) : KI l G yX5_count wsX5_count ({ frames := 1, cells := 0, slots := 0, locals := 22 } : Room) [.ref o, .int w] (wXO o ax (sP S) ++ ([((ax 7), .inl (gI G, 7, .inl (sF S)))] ++ (wN G (ax 1) qh (sN S) ++ wTP ax (nI (sL S))))) (S := Unit) (fun _ => True) (fun u => (sp_count w S).1) (fun u => wXO o ax (sP S) ++ ([((ax 7), .inl (gI G, 7, .inl (sF (sp_count w S).2)))] ++ (wN G (ax 1) qh (sN S) ++ wTP ax (nI (sL S))))) := by
  refine ki_of [(0, .ref o), (1, .int w)] (own := RX5) (cc := cX5_count) (nL := 2) (by decide +kernel) rfl rfl (Nat.le_of_ble_eq_true rfl) rfl (fun _ => rfl) (fun K cx fin => ?_)
  refine j_iload_n 0 cx 1 dX5_count_0 rfl ?_
  by_cases zc1 : w = 0
  · skip
    refine j_tableIn 1 cx 32 (0) dX5_count_1 zc1 (by decide) (by decide) (by decide) rfl (by decide) ?_
    refine j_aload_n 32 cx 0 dX5_count_32 rfl ?_
    refine j_get 33 cx 0 0 (T := TX5) (v := .ref ((ax 1))) (fun _ h => List.mem_cons_of_mem _ (List.mem_append_left _ (List.mem_append_left _ (List.mem_append_right _ (h))))) (List.mem_of_getElem? (i := 1) rfl) (ci := 4) rfl (by decide) rfl rfl rfl dX5_count_33 ?_
    refine j_get 36 cx 2 3 (T := TX1) (v := .int ((sN S) 0 3)) (fun _ h => List.mem_cons_of_mem _ (List.mem_append_left _ (List.mem_append_right _ (h)))) (List.mem_of_getElem? (i := 2) rfl) (ci := 0) rfl (by decide) rfl rfl rfl dX5_count_36 ?_
    refine j_top (nI (szN (sN S))) hI.sz ?_
    have ze : (sp_count w S) = (nI (szN (sN S)), S) := by unfold sp_count; simp [hI.sz, zc1]
    exact fin () _ _ _ _ dX5_count_39 rfl (by rw [ze] <;> rfl) (by rw [ze] <;> rfl) trivial
  · skip
    by_cases zc2 : w = 1
    · skip
      refine j_tableIn 1 cx 40 (1) dX5_count_1 zc2 (by decide) (by decide) (by decide) rfl (by decide) ?_
      refine j_aload_n 40 cx 0 dX5_count_40 rfl ?_
      refine j_get 41 cx 0 4 (T := TX5) (v := .ref ((ax 4))) (fun _ h => List.mem_cons_of_mem _ (List.mem_append_left _ (List.mem_append_left _ (List.mem_append_right _ (h))))) (List.mem_of_getElem? (i := 3) rfl) (ci := 4) rfl (by decide) rfl rfl rfl dX5_count_41 ?_
      refine j_get 44 cx 9 1 (T := TX4) (v := .int (nI (sL S))) (fun _ h => List.mem_cons_of_mem _ (List.mem_append_right _ (h))) (List.mem_of_getElem? (i := 4) rfl) (ci := 3) rfl (by decide) rfl rfl rfl dX5_count_44 ?_
      have ze : (sp_count w S) = (nI (sL S), S) := by unfold sp_count; simp [hI.sz, zc1, zc2]
      exact fin () _ _ _ _ dX5_count_47 rfl (by rw [ze] <;> rfl) (by rw [ze] <;> rfl) trivial
    · skip
      by_cases zc3 : w = 2
      · skip
        refine j_tableIn 1 cx 48 (2) dX5_count_1 zc3 (by decide) (by decide) (by decide) rfl (by decide) ?_
        refine j_aload_n 48 cx 0 dX5_count_48 rfl ?_
        refine j_get 49 cx 0 0 (T := TX5) (v := .ref ((ax 1))) (fun _ h => List.mem_cons_of_mem _ (List.mem_append_left _ (List.mem_append_left _ (List.mem_append_right _ (h))))) (List.mem_of_getElem? (i := 1) rfl) (ci := 4) rfl (by decide) rfl rfl rfl dX5_count_49 ?_
        refine j_callV_i 52 cx 0 [2, 3, 4, 5, 6, 7, 8] [] (fun _ => wXO o ax (sP S) ++ ([((ax 7), .inl (gI G, 7, .inl (sF S)))] ++ (wN G (ax 1) qh (sN S) ++ wTP ax (nI (sL S))))) (c_X1_holidays (kl K) G (ax 1) qh (sN S) ) gX5_count_X1_holidays rfl rfl rfl ⟨rfl, by decide, by decide, rfl⟩ ⟨Nat.le_of_ble_eq_true rfl, Nat.le_of_ble_eq_true rfl⟩ ⟨Nat.zero_le _, Nat.zero_le _⟩ rfl (by decide) (ci := 0) 0 rfl rfl rfl rfl rfl (Nat.le_of_ble_eq_true rfl) dX5_count_52 (fun _ => rfl) (fun zu1 zk1 => ?_)
        refine j_top (sumF ((sN S) 1) 7) rfl ?_
        have ze : (sp_count w S) = (sumF ((sN S) 1) 7, S) := by unfold sp_count; simp [hI.sz, zc1, zc2, zc3]
        exact fin () _ _ _ _ dX5_count_55 rfl (by rw [ze] <;> rfl) (by rw [ze] <;> rfl) trivial
      · skip
        by_cases zc4 : w = 3
        · skip
          refine j_tableIn 1 cx 56 (3) dX5_count_1 zc4 (by decide) (by decide) (by decide) rfl (by decide) ?_
          refine j_aload_n 56 cx 0 dX5_count_56 rfl ?_
          refine j_get 57 cx 0 0 (T := TX5) (v := .ref ((ax 1))) (fun _ h => List.mem_cons_of_mem _ (List.mem_append_left _ (List.mem_append_left _ (List.mem_append_right _ (h))))) (List.mem_of_getElem? (i := 1) rfl) (ci := 4) rfl (by decide) rfl rfl rfl dX5_count_57 ?_
          refine j_callV_i 60 cx 0 [2, 3, 4, 5, 6, 7, 8] [] (fun _ => wXO o ax (sP S) ++ ([((ax 7), .inl (gI G, 7, .inl (sF S)))] ++ (wN G (ax 1) qh (sN S) ++ wTP ax (nI (sL S))))) (c_X1_allPoints (kl K) G (ax 1) qh (sN S) hI) gX5_count_X1_allPoints rfl rfl rfl ⟨rfl, by decide, by decide, rfl⟩ ⟨Nat.le_of_ble_eq_true rfl, Nat.le_of_ble_eq_true rfl⟩ ⟨Nat.zero_le _, Nat.zero_le _⟩ rfl (by decide) (ci := 0) 0 rfl rfl rfl rfl rfl (Nat.le_of_ble_eq_true rfl) dX5_count_60 (fun _ => rfl) (fun zu2 zk2 => ?_)
          refine j_top (sumF ((sN S) 4) (szN (sN S))) rfl ?_
          have ze : (sp_count w S) = (sumF ((sN S) 4) (szN (sN S)), S) := by unfold sp_count; simp [hI.sz, zc1, zc2, zc3, zc4]
          exact fin () _ _ _ _ dX5_count_63 rfl (by rw [ze] <;> rfl) (by rw [ze] <;> rfl) trivial
        · skip
          refine j_tableOut 1 cx 64 dX5_count_1 (tb_out (fun z h1 h2 => by
              have hz : z = 0 ∨ z = 1 ∨ z = 2 ∨ z = 3 := by omega
              rcases hz with rfl | rfl | rfl | rfl
              · exact ne_ti zc1 (by decide)
              · exact ne_ti zc2 (by decide)
              · exact ne_ti zc3 (by decide)
              · exact ne_ti zc4 (by decide))) (by decide) ?_
          refine j_aload_n 64 cx 0 dX5_count_64 rfl ?_
          refine j_ldc 65 cx (v := -1000000001) (List.mem_of_getElem? (i := 5) rfl) dX5_count_65 ?_
          refine j_callV_i 67 cx 1 [0, 1] [.int (fcode 0)] (fun _ => wXO o ax (sP S) ++ ([((ax 7), .inl (gI G, 7, .inl (upd (sF S) 0 ((sF S) 0 + 1))))] ++ (wN G (ax 1) qh (sN S) ++ wTP ax (nI (sL S))))) (c_X5_finding (kl K) G o ax (sP S) (sF S) 0 (by decide)) gX5_count_X5_finding rfl rfl rfl ⟨rfl, by decide, by decide, rfl⟩ ⟨Nat.le_of_ble_eq_true rfl, Nat.le_of_ble_eq_true rfl⟩ ⟨Nat.zero_le _, Nat.zero_le _⟩ rfl (by decide) (ci := 4) 0 rfl rfl rfl rfl rfl (Nat.le_of_ble_eq_true rfl) dX5_count_67 (fun _ => rfl) (fun zu3 zk3 => ?_)
          refine j_top (fcode 0) rfl ?_
          have ze : (sp_count w S) = bad S 0 := by unfold sp_count; simp [hI.sz, zc1, zc2, zc3, zc4]
          exact fin () _ _ _ _ dX5_count_70 rfl (by rw [ze] <;> rfl) (by rw [ze] <;> rfl) trivial
set_option maxRecDepth 100000 in
set_option maxHeartbeats 4000000 in
theorem c_X5_status (l : Launch) (G : pG) (o : Nat) (ax : Nat → Nat) (qh qt qk : Nat → Nat) (S : St) (τ : Nu) (hI : Inv (sN S)) (hD : dyN (sN S) ≤ 9999) (w : Int32) : KI l G yX5_status wsX5_status ({ frames := 1, cells := 0, slots := 0, locals := 22 } : Room) [.ref o, .int w] (wXO o ax (sP S) ++ [((ax 7), .inl (gI G, 7, .inl (sF S)))]) (S := Unit) (fun _ => True) (fun u => (sp_status w S).1) (fun u => wXO o ax (sP S) ++ [((ax 7), .inl (gI G, 7, .inl (sF (sp_status w S).2)))]) := by
  refine ki_of [(0, .ref o), (1, .int w)] (own := RX5) (cc := cX5_status) (nL := 4) (by decide +kernel) rfl rfl (Nat.le_of_ble_eq_true rfl) rfl (fun _ => rfl) (fun K cx fin => ?_)
  refine j_iload_n 0 cx 1 dX5_status_0 rfl ?_
  refine j_iconst 1 cx (-1) dX5_status_1 (by decide) ?_
  refine j_bipush 2 cx 6 dX5_status_2 (by decide) ?_
  refine j_callS_i 4 cx 3 [] [.int w, .int ((-1)), .int 6] (fun _ => wXO o ax (sP S) ++ [((ax 7), .inl (gI G, 7, .inl (sF S)))]) (c_X5_inside (kl K) G w (-1) 6) gX5_status_X5_inside rfl rfl rfl ⟨by decide, by decide, rfl⟩ ⟨Nat.le_of_ble_eq_true rfl, Nat.le_of_ble_eq_true rfl⟩ ⟨Nat.zero_le _, Nat.zero_le _⟩ rfl (by decide) rfl rfl (Nat.le_of_ble_eq_true rfl) dX5_status_4 (fun _ => rfl) (fun zu1 zk1 => ?_)
  refine j_top (bI (inI w (-1) 6)) rfl ?_
  refine j_ifB_ne 7 cx 17 dX5_status_7 (by decide) (fun zc1 => ?_) (fun zc1 => ?_)
  · skip
    refine j_iload_n 17 cx 1 dX5_status_17 rfl ?_
    refine j_if_lt 18 cx 28 dX5_status_18 (by decide) (fun zc2 => ?_) (fun zc2 => ?_)
    · skip
      refine j_iconst 28 cx 0 dX5_status_28 (by decide) ?_
      refine j_istore_n 29 cx [(2, .int 0), (0, .ref o), (1, .int w)] dX5_status_29 (by decide) rfl ?_
      refine j_iconst 30 cx 0 dX5_status_30 (by decide) ?_
      refine j_istore_n 31 cx [(3, .int 0), (2, .int 0), (0, .ref o), (1, .int w)] dX5_status_31 (by decide) rfl ?_
      have L32 : ∀ d : Nat, ∀ (k : Nat), (k + d = 7) → JJ G K 0 0 (wXO o ax (sP S) ++ [((ax 7), .inl (gI G, 7, .inl (sF S)))]) [(3, .int (nI k)), (2, .int (sumF (sF S) k)), (1, .int w), (0, .ref o)] 32 [] := by
        intro d
        induction d with
        | zero =>
          intro k hk
          refine j_iload_n 32 cx 0 dX5_status_32 rfl ?_
          refine j_bipush 33 cx 7 dX5_status_33 (by decide) ?_
          refine j_icmp_ge_T 35 cx 53 dX5_status_35 (by decide) (nI_le (a := 7) (by omega) (by omega)) ?_
          refine j_iload_n 53 cx 1 dX5_status_53 rfl ?_
          have ze : (sp_status w S) = (sumF (sF S) k, S) := by rw [show k = 7 from by omega]; unfold sp_status; simp [zc1, zc2]
          exact fin () _ _ _ _ dX5_status_54 rfl (by rw [ze] <;> rfl) (by rw [ze] <;> rfl) trivial
        | succ d ih32 =>
          intro k hk
          refine j_iload_n 32 cx 0 dX5_status_32 rfl ?_
          refine j_bipush 33 cx 7 dX5_status_33 (by decide) ?_
          refine j_icmp_ge_F 35 cx 53 dX5_status_35 (by decide) (nI_ge (b := 7) (by omega) (by omega)) ?_
          refine j_iload_n 38 cx 1 dX5_status_38 rfl ?_
          refine j_aload_n 39 cx 3 dX5_status_39 rfl ?_
          refine j_get 40 cx 0 7 (T := TX5) (v := .ref ((ax 7))) (fun _ h => List.mem_cons_of_mem _ (List.mem_append_right _ (h))) (List.mem_of_getElem? (i := 2) rfl) (ci := 4) rfl (by decide) rfl rfl rfl dX5_status_40 ?_
          refine j_iload_n 43 cx 0 dX5_status_43 rfl ?_
          refine j_iald 44 cx 1 k rfl rfl (by omega) (by decide) dX5_status_44 ?_
          refine j_iadd 45 cx dX5_status_45 ?_
          refine j_istore_n 46 cx [(2, .int ((sumF (sF S) k) + ((sF S) k))), (3, .int (nI k)), (1, .int w), (0, .ref o)] dX5_status_46 (by decide) rfl ?_
          refine j_iinc 47 cx [(3, .int (nI (k + 1))), (2, .int ((sumF (sF S) k) + ((sF S) k))), (1, .int w), (0, .ref o)] 1 (nI (k + 1)) dX5_status_47 rfl (iinc1 k) (by decide) rfl ?_
          refine j_goto 50 cx 32 dX5_status_50 (by decide) ?_
          exact ih32 (k + 1) (by omega)
      refine j_lv [0, 1, 3, 2] rfl ?_
      exact L32 7 0 (by omega)
    · skip
      obtain ⟨k, hk6, rfl⟩ := st_k zc1 zc2
      have hkc : (nI k).toNatClampNeg = k := nI_clamp (by omega)
      refine j_aload_n 21 cx 0 dX5_status_21 rfl ?_
      refine j_get 22 cx 0 7 (T := TX5) (v := .ref ((ax 7))) (fun _ h => List.mem_cons_of_mem _ (List.mem_append_right _ (h))) (List.mem_of_getElem? (i := 2) rfl) (ci := 4) rfl (by decide) rfl rfl rfl dX5_status_22 ?_
      refine j_iload_n 25 cx 1 dX5_status_25 rfl ?_
      refine j_iald 26 cx 1 k rfl rfl (by omega) (by decide) dX5_status_26 ?_
      have ze : (sp_status (nI k) S) = ((sF S) k, S) := by unfold sp_status; simp [zc1, zc2, hkc]
      exact fin () _ _ _ _ dX5_status_27 rfl (by rw [ze] <;> rfl) (by rw [ze] <;> rfl) trivial
  · skip
    refine j_aload_n 10 cx 0 dX5_status_10 rfl ?_
    refine j_ldc 11 cx (v := -1000000001) (List.mem_of_getElem? (i := 1) rfl) dX5_status_11 ?_
    refine j_callV_i 13 cx 1 [0, 1] [.int (fcode 0)] (fun _ => wXO o ax (sP S) ++ [((ax 7), .inl (gI G, 7, .inl (upd (sF S) 0 ((sF S) 0 + 1))))]) (c_X5_finding (kl K) G o ax (sP S) (sF S) 0 (by decide)) gX5_status_X5_finding rfl rfl rfl ⟨rfl, by decide, by decide, rfl⟩ ⟨Nat.le_of_ble_eq_true rfl, Nat.le_of_ble_eq_true rfl⟩ ⟨Nat.zero_le _, Nat.zero_le _⟩ rfl (by decide) (ci := 4) 0 rfl rfl rfl rfl rfl (Nat.le_of_ble_eq_true rfl) dX5_status_13 (fun _ => rfl) (fun zu2 zk2 => ?_)
    refine j_top (fcode 0) rfl ?_
    have ze : (sp_status w S) = bad S 0 := by unfold sp_status; simp [zc1]
    exact fin () _ _ _ _ dX5_status_16 rfl (by rw [ze] <;> rfl) (by rw [ze] <;> rfl) trivial
