set_option maxRecDepth 100000 in
set_option maxHeartbeats 4000000 in
theorem c_X5_sheet_f (l : Launch) (G : pG) (o : Nat) (ax : Nat → Nat) (sh : Nat → Nat) (S : St) (s : Int32) (b n : Int32) (hv : inI s 0 3 = false) : KI l G yX5_sheet wsX5_sheet ({ frames := 2, cells := 0, slots := 0, locals := 44 } : Room) [.ref o, .int s, .int b, .int n] (wXO o ax (sP S) ++ ([((ax 7), .inl (gI G, 7, .inl (sF S)))] ++ [((ax 6), .inl (gS G, 4, .inr (.inr (.inr (.inr (fun j => some (sh j)))))))])) (S := Unit) (fun _ => True) (fun u => (sp_sheet s b n S).1) (fun u => wXO o ax (sP S) ++ ([((ax 7), .inl (gI G, 7, .inl (sF (sp_sheet s b n S).2)))] ++ [((ax 6), .inl (gS G, 4, .inr (.inr (.inr (.inr (fun j => some (sh j)))))))])) := by
  refine ki_of [(0, .ref o), (1, .int s), (2, .int b), (3, .int n)] (own := RX5) (cc := cX5_sheet) (nL := 5) (by decide +kernel) rfl rfl (Nat.le_of_ble_eq_true rfl) rfl (fun _ => rfl) (fun K cx fin => ?_)
  refine j_aload_n 0 cx 0 dX5_sheet_0 rfl ?_
  refine j_iload_n 1 cx 1 dX5_sheet_1 rfl ?_
  refine j_callV_q 2 cx 1 [0, 2] [.int s] (fun _ => wXO o ax (sP S) ++ ([((ax 7), .inl (gI G, 7, .inl (sF S)))] ++ [((ax 6), .inl (gS G, 4, .inr (.inr (.inr (.inr (fun j => some (sh j)))))))])) (c_X5_sheetAt_f (kl K) G o ax (sP S) sh s hv) gX5_sheet_X5_sheetAt rfl rfl rfl ⟨rfl, by decide, by decide, rfl⟩ ⟨Nat.le_of_ble_eq_true rfl, Nat.le_of_ble_eq_true rfl⟩ ⟨Nat.zero_le _, Nat.zero_le _⟩ rfl (by decide) (ci := 4) 0 rfl rfl rfl rfl rfl (Nat.le_of_ble_eq_true rfl) dX5_sheet_2 (fun _ => rfl) (fun zu1 zk1 => ?_)
  refine j_st (st' := [.null]) rfl ?_
  refine j_astoreN 5 cx [(4, .null), (0, .ref o), (1, .int s), (2, .int b), (3, .int n)] dX5_sheet_5 (by decide) rfl ?_
  refine j_aloadN 7 cx 0 dX5_sheet_7 rfl ?_
  refine j_ifnullN 9 cx 34 dX5_sheet_9 (by decide) ?_
  refine j_aload_n 34 cx 1 dX5_sheet_34 rfl ?_
  refine j_ldc 35 cx (v := -1000000001) (List.mem_of_getElem? (i := 1) rfl) dX5_sheet_35 ?_
  refine j_callV_i 37 cx 1 [0, 1] [.int (fcode 0)] (fun _ => wXO o ax (sP S) ++ ([((ax 7), .inl (gI G, 7, .inl (upd (sF S) 0 ((sF S) 0 + 1))))] ++ [((ax 6), .inl (gS G, 4, .inr (.inr (.inr (.inr (fun j => some (sh j)))))))])) (c_X5_finding (kl K) G o ax (sP S) (sF S) 0 (by decide)) gX5_sheet_X5_finding rfl rfl rfl ⟨rfl, by decide, by decide, rfl⟩ ⟨Nat.le_of_ble_eq_true rfl, Nat.le_of_ble_eq_true rfl⟩ ⟨Nat.zero_le _, Nat.zero_le _⟩ rfl (by decide) (ci := 4) 0 rfl rfl rfl rfl rfl (Nat.le_of_ble_eq_true rfl) dX5_sheet_37 (fun _ => rfl) (fun zu2 zk2 => ?_)
  refine j_top (fcode 0) rfl ?_
  have ze : (sp_sheet s b n S) = bad S 0 := by unfold sp_sheet; rw [if_neg (by rw [hv]; decide)]
  exact fin () _ _ _ _ dX5_sheet_40 rfl (by rw [ze] <;> rfl) (by rw [ze] <;> rfl) trivial
set_option maxRecDepth 100000 in
set_option maxHeartbeats 4000000 in
theorem c_X5_write_f (l : Launch) (G : pG) (o : Nat) (ax : Nat → Nat) (sh : Nat → Nat) (S : St) (s : Int32) (i : Int32) (v : Int64) (hv : inI s 0 3 = false) : KL l G yX5_write wsX5_write ({ frames := 2, cells := 0, slots := 0, locals := 45 } : Room) [.ref o, .int s, .int i, .long (v)] (wXO o ax (sP S) ++ ([((ax 7), .inl (gI G, 7, .inl (sF S)))] ++ [((ax 6), .inl (gS G, 4, .inr (.inr (.inr (.inr (fun j => some (sh j)))))))])) (S := Unit) (fun _ => True) (fun u => (sp_write s i v S).1) (fun u => wXO o ax (sP S) ++ ([((ax 7), .inl (gI G, 7, .inl (sF (sp_write s i v S).2)))] ++ [((ax 6), .inl (gS G, 4, .inr (.inr (.inr (.inr (fun j => some (sh j)))))))])) := by
  refine kl_of [(0, .ref o), (1, .int s), (2, .int i), (3, .long (v))] (own := RX5) (cc := cX5_write) (nL := 8) (by decide +kernel) rfl rfl (Nat.le_of_ble_eq_true rfl) rfl (fun _ => rfl) (fun K cx fin => ?_)
  refine j_aload_n 0 cx 0 dX5_write_0 rfl ?_
  refine j_iload_n 1 cx 1 dX5_write_1 rfl ?_
  refine j_callV_q 2 cx 1 [0, 2] [.int s] (fun _ => wXO o ax (sP S) ++ ([((ax 7), .inl (gI G, 7, .inl (sF S)))] ++ [((ax 6), .inl (gS G, 4, .inr (.inr (.inr (.inr (fun j => some (sh j)))))))])) (c_X5_sheetAt_f (kl K) G o ax (sP S) sh s hv) gX5_write_X5_sheetAt rfl rfl rfl ⟨rfl, by decide, by decide, rfl⟩ ⟨Nat.le_of_ble_eq_true rfl, Nat.le_of_ble_eq_true rfl⟩ ⟨Nat.zero_le _, Nat.zero_le _⟩ rfl (by decide) (ci := 4) 0 rfl rfl rfl rfl rfl (Nat.le_of_ble_eq_true rfl) dX5_write_2 (fun _ => rfl) (fun zu1 zk1 => ?_)
  refine j_st (st' := [.null]) rfl ?_
  refine j_astoreN 5 cx [(5, .null), (0, .ref o), (1, .int s), (2, .int i), (3, .long (v))] dX5_write_5 (by decide) rfl ?_
  refine j_aloadN 7 cx 0 dX5_write_7 rfl ?_
  refine j_ifnonnullN 9 cx dX5_write_9 ?_
  refine j_aload_n 12 cx 1 dX5_write_12 rfl ?_
  refine j_ldc 13 cx (v := -1000000001) (List.mem_of_getElem? (i := 1) rfl) dX5_write_13 ?_
  refine j_callV_i 15 cx 1 [0, 1] [.int (fcode 0)] (fun _ => wXO o ax (sP S) ++ ([((ax 7), .inl (gI G, 7, .inl (upd (sF S) 0 ((sF S) 0 + 1))))] ++ [((ax 6), .inl (gS G, 4, .inr (.inr (.inr (.inr (fun j => some (sh j)))))))])) (c_X5_finding (kl K) G o ax (sP S) (sF S) 0 (by decide)) gX5_write_X5_finding rfl rfl rfl ⟨rfl, by decide, by decide, rfl⟩ ⟨Nat.le_of_ble_eq_true rfl, Nat.le_of_ble_eq_true rfl⟩ ⟨Nat.zero_le _, Nat.zero_le _⟩ rfl (by decide) (ci := 4) 0 rfl rfl rfl rfl rfl (Nat.le_of_ble_eq_true rfl) dX5_write_15 (fun _ => rfl) (fun zu2 zk2 => ?_)
  refine j_top (fcode 0) rfl ?_
  refine j_i2l 18 cx dX5_write_18 ?_
  have ze : (sp_write s i v S) = badL S 0 := by unfold sp_write; rw [if_neg (by rw [hv]; decide)]
  exact fin () _ _ _ _ dX5_write_19 (by rw [ze] <;> rfl) (by rw [ze] <;> rfl) trivial
set_option maxRecDepth 100000 in
set_option maxHeartbeats 4000000 in
theorem c_X5_lays_f (l : Launch) (G : pG) (o : Nat) (ax : Nat → Nat) (sh : Nat → Nat) (S : St) (s : Int32) (hv : inI s 0 3 = false) : KI l G yX5_lays wsX5_lays ({ frames := 2, cells := 0, slots := 0, locals := 43 } : Room) [.ref o, .int s] (wXO o ax (sP S) ++ ([((ax 7), .inl (gI G, 7, .inl (sF S)))] ++ [((ax 6), .inl (gS G, 4, .inr (.inr (.inr (.inr (fun j => some (sh j)))))))])) (S := Unit) (fun _ => True) (fun u => (sp_lays s S).1) (fun u => wXO o ax (sP S) ++ ([((ax 7), .inl (gI G, 7, .inl (sF (sp_lays s S).2)))] ++ [((ax 6), .inl (gS G, 4, .inr (.inr (.inr (.inr (fun j => some (sh j)))))))])) := by
  refine ki_of [(0, .ref o), (1, .int s)] (own := RX5) (cc := cX5_lays) (nL := 8) (by decide +kernel) rfl rfl (Nat.le_of_ble_eq_true rfl) rfl (fun _ => rfl) (fun K cx fin => ?_)
  refine j_aload_n 0 cx 0 dX5_lays_0 rfl ?_
  refine j_iload_n 1 cx 1 dX5_lays_1 rfl ?_
  refine j_callV_q 2 cx 1 [0, 2] [.int s] (fun _ => wXO o ax (sP S) ++ ([((ax 7), .inl (gI G, 7, .inl (sF S)))] ++ [((ax 6), .inl (gS G, 4, .inr (.inr (.inr (.inr (fun j => some (sh j)))))))])) (c_X5_sheetAt_f (kl K) G o ax (sP S) sh s hv) gX5_lays_X5_sheetAt rfl rfl rfl ⟨rfl, by decide, by decide, rfl⟩ ⟨Nat.le_of_ble_eq_true rfl, Nat.le_of_ble_eq_true rfl⟩ ⟨Nat.zero_le _, Nat.zero_le _⟩ rfl (by decide) (ci := 4) 0 rfl rfl rfl rfl rfl (Nat.le_of_ble_eq_true rfl) dX5_lays_2 (fun _ => rfl) (fun zu1 zk1 => ?_)
  refine j_st (st' := [.null]) rfl ?_
  refine j_astore_nN 5 cx [(2, .null), (0, .ref o), (1, .int s)] dX5_lays_5 (by decide) rfl ?_
  refine j_aload_nN 6 cx 0 dX5_lays_6 rfl ?_
  refine j_ifnonnullN 7 cx dX5_lays_7 ?_
  refine j_aload_n 10 cx 1 dX5_lays_10 rfl ?_
  refine j_ldc 11 cx (v := -1000000001) (List.mem_of_getElem? (i := 1) rfl) dX5_lays_11 ?_
  refine j_callV_i 13 cx 1 [0, 1] [.int (fcode 0)] (fun _ => wXO o ax (sP S) ++ ([((ax 7), .inl (gI G, 7, .inl (upd (sF S) 0 ((sF S) 0 + 1))))] ++ [((ax 6), .inl (gS G, 4, .inr (.inr (.inr (.inr (fun j => some (sh j)))))))])) (c_X5_finding (kl K) G o ax (sP S) (sF S) 0 (by decide)) gX5_lays_X5_finding rfl rfl rfl ⟨rfl, by decide, by decide, rfl⟩ ⟨Nat.le_of_ble_eq_true rfl, Nat.le_of_ble_eq_true rfl⟩ ⟨Nat.zero_le _, Nat.zero_le _⟩ rfl (by decide) (ci := 4) 0 rfl rfl rfl rfl rfl (Nat.le_of_ble_eq_true rfl) dX5_lays_13 (fun _ => rfl) (fun zu2 zk2 => ?_)
  refine j_top (fcode 0) rfl ?_
  have ze : (sp_lays s S) = bad S 0 := by unfold sp_lays; rw [if_neg (by rw [hv]; decide)]
  exact fin () _ _ _ _ dX5_lays_16 rfl (by rw [ze] <;> rfl) (by rw [ze] <;> rfl) trivial
set_option maxRecDepth 100000 in
set_option maxHeartbeats 4000000 in
theorem c_X5_book_f (l : Launch) (G : pG) (o : Nat) (ax : Nat → Nat) (sh : Nat → Nat) (S : St) (s : Int32) (hv : inI s 0 3 = false) : KI l G yX5_book wsX5_book ({ frames := 5, cells := 0, slots := 0, locals := 118 } : Room) [.ref o, .int s] (wXO o ax (sP S) ++ ([((ax 7), .inl (gI G, 7, .inl (sF S)))] ++ [((ax 6), .inl (gS G, 4, .inr (.inr (.inr (.inr (fun j => some (sh j)))))))])) (S := Unit) (fun _ => True) (fun u => (sp_book s S).1) (fun u => wXO o ax (sP S) ++ ([((ax 7), .inl (gI G, 7, .inl (sF (sp_book s S).2)))] ++ [((ax 6), .inl (gS G, 4, .inr (.inr (.inr (.inr (fun j => some (sh j)))))))])) := by
  refine ki_of [(0, .ref o), (1, .int s)] (own := RX5) (cc := cX5_book) (nL := 5) (by decide +kernel) rfl rfl (Nat.le_of_ble_eq_true rfl) rfl (fun _ => rfl) (fun K cx fin => ?_)
  refine j_aload_n 0 cx 0 dX5_book_0 rfl ?_
  refine j_iload_n 1 cx 1 dX5_book_1 rfl ?_
  refine j_callV_q 2 cx 1 [0, 2] [.int s] (fun _ => wXO o ax (sP S) ++ ([((ax 7), .inl (gI G, 7, .inl (sF S)))] ++ [((ax 6), .inl (gS G, 4, .inr (.inr (.inr (.inr (fun j => some (sh j)))))))])) (c_X5_sheetAt_f (kl K) G o ax (sP S) sh s hv) gX5_book_X5_sheetAt rfl rfl rfl ⟨rfl, by decide, by decide, rfl⟩ ⟨Nat.le_of_ble_eq_true rfl, Nat.le_of_ble_eq_true rfl⟩ ⟨Nat.zero_le _, Nat.zero_le _⟩ rfl (by decide) (ci := 4) 0 rfl rfl rfl rfl rfl (Nat.le_of_ble_eq_true rfl) dX5_book_2 (fun _ => rfl) (fun zu1 zk1 => ?_)
  refine j_st (st' := [.null]) rfl ?_
  refine j_astore_nN 5 cx [(2, .null), (0, .ref o), (1, .int s)] dX5_book_5 (by decide) rfl ?_
  refine j_aload_nN 6 cx 0 dX5_book_6 rfl ?_
  refine j_ifnonnullN 7 cx dX5_book_7 ?_
  refine j_aload_n 10 cx 1 dX5_book_10 rfl ?_
  refine j_ldc 11 cx (v := -1000000001) (List.mem_of_getElem? (i := 1) rfl) dX5_book_11 ?_
  refine j_callV_i 13 cx 1 [0, 1] [.int (fcode 0)] (fun _ => wXO o ax (sP S) ++ ([((ax 7), .inl (gI G, 7, .inl (upd (sF S) 0 ((sF S) 0 + 1))))] ++ [((ax 6), .inl (gS G, 4, .inr (.inr (.inr (.inr (fun j => some (sh j)))))))])) (c_X5_finding (kl K) G o ax (sP S) (sF S) 0 (by decide)) gX5_book_X5_finding rfl rfl rfl ⟨rfl, by decide, by decide, rfl⟩ ⟨Nat.le_of_ble_eq_true rfl, Nat.le_of_ble_eq_true rfl⟩ ⟨Nat.zero_le _, Nat.zero_le _⟩ rfl (by decide) (ci := 4) 0 rfl rfl rfl rfl rfl (Nat.le_of_ble_eq_true rfl) dX5_book_13 (fun _ => rfl) (fun zu2 zk2 => ?_)
  refine j_top (fcode 0) rfl ?_
  have ze : (sp_book s S) = bad S 0 := by unfold sp_book; rw [if_neg (by rw [hv]; decide)]
  exact fin () _ _ _ _ dX5_book_16 rfl (by rw [ze] <;> rfl) (by rw [ze] <;> rfl) trivial
set_option maxRecDepth 100000 in
set_option maxHeartbeats 4000000 in
theorem c_X5_read_f (l : Launch) (G : pG) (o : Nat) (ax : Nat → Nat) (sh : Nat → Nat) (S : St) (s : Int32) (p : Int32) (hv : inI s 0 3 = false) : KI l G yX5_read wsX5_read ({ frames := 6, cells := 0, slots := 0, locals := 141 } : Room) [.ref o, .int s, .int p] (wXO o ax (sP S) ++ ([((ax 7), .inl (gI G, 7, .inl (sF S)))] ++ [((ax 6), .inl (gS G, 4, .inr (.inr (.inr (.inr (fun j => some (sh j)))))))])) (S := Unit) (fun _ => True) (fun u => (sp_read s p S).1) (fun u => wXO o ax (sP S) ++ ([((ax 7), .inl (gI G, 7, .inl (sF (sp_read s p S).2)))] ++ [((ax 6), .inl (gS G, 4, .inr (.inr (.inr (.inr (fun j => some (sh j)))))))])) := by
  refine ki_of [(0, .ref o), (1, .int s), (2, .int p)] (own := RX5) (cc := cX5_read) (nL := 8) (by decide +kernel) rfl rfl (Nat.le_of_ble_eq_true rfl) rfl (fun _ => rfl) (fun K cx fin => ?_)
  refine j_aload_n 0 cx 0 dX5_read_0 rfl ?_
  refine j_iload_n 1 cx 1 dX5_read_1 rfl ?_
  refine j_callV_q 2 cx 1 [0, 2] [.int s] (fun _ => wXO o ax (sP S) ++ ([((ax 7), .inl (gI G, 7, .inl (sF S)))] ++ [((ax 6), .inl (gS G, 4, .inr (.inr (.inr (.inr (fun j => some (sh j)))))))])) (c_X5_sheetAt_f (kl K) G o ax (sP S) sh s hv) gX5_read_X5_sheetAt rfl rfl rfl ⟨rfl, by decide, by decide, rfl⟩ ⟨Nat.le_of_ble_eq_true rfl, Nat.le_of_ble_eq_true rfl⟩ ⟨Nat.zero_le _, Nat.zero_le _⟩ rfl (by decide) (ci := 4) 0 rfl rfl rfl rfl rfl (Nat.le_of_ble_eq_true rfl) dX5_read_2 (fun _ => rfl) (fun zu1 zk1 => ?_)
  refine j_st (st' := [.null]) rfl ?_
  refine j_astore_nN 5 cx [(3, .null), (0, .ref o), (1, .int s), (2, .int p)] dX5_read_5 (by decide) rfl ?_
  refine j_aload_nN 6 cx 0 dX5_read_6 rfl ?_
  refine j_ifnonnullN 7 cx dX5_read_7 ?_
  refine j_aload_n 10 cx 1 dX5_read_10 rfl ?_
  refine j_ldc 11 cx (v := -1000000001) (List.mem_of_getElem? (i := 1) rfl) dX5_read_11 ?_
  refine j_callV_i 13 cx 1 [0, 1] [.int (fcode 0)] (fun _ => wXO o ax (sP S) ++ ([((ax 7), .inl (gI G, 7, .inl (upd (sF S) 0 ((sF S) 0 + 1))))] ++ [((ax 6), .inl (gS G, 4, .inr (.inr (.inr (.inr (fun j => some (sh j)))))))])) (c_X5_finding (kl K) G o ax (sP S) (sF S) 0 (by decide)) gX5_read_X5_finding rfl rfl rfl ⟨rfl, by decide, by decide, rfl⟩ ⟨Nat.le_of_ble_eq_true rfl, Nat.le_of_ble_eq_true rfl⟩ ⟨Nat.zero_le _, Nat.zero_le _⟩ rfl (by decide) (ci := 4) 0 rfl rfl rfl rfl rfl (Nat.le_of_ble_eq_true rfl) dX5_read_13 (fun _ => rfl) (fun zu2 zk2 => ?_)
  refine j_top (fcode 0) rfl ?_
  have ze : (sp_read s p S) = bad S 0 := by unfold sp_read; rw [if_neg (by rw [hv]; decide)]
  exact fin () _ _ _ _ dX5_read_16 rfl (by rw [ze] <;> rfl) (by rw [ze] <;> rfl) trivial
