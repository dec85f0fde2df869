set_option maxRecDepth 100000 in
set_option maxHeartbeats 4000000 in
theorem c_J9_floorMod (l : Launch) (G : pG) (d : Nat) (hd : d < 1000000) : KI l G yJ9_floorMod_7cf53 wsJ9_floorMod_7cf53 ({ frames := 0, cells := 0, slots := 0, locals := 0 } : Room) [.int (nI d), .int 7] (([] : va_W)) (S := Unit) (fun _ => True) (fun u => nI (d % 7)) (fun u => ([] : va_W)) := by
  refine ki_of [(0, .int (nI d)), (1, .int 7)] (own := RJ9) (cc := cJ9_floorMod_7cf53) (nL := 3) (by decide +kernel) rfl rfl (Nat.le_of_ble_eq_true rfl) rfl (fun _ => rfl) (fun K cx fin => ?_)
  refine j_iload_n 0 cx 0 dJ9_floorMod_7cf53_0 rfl ?_
  refine j_iload_n 1 cx 1 dJ9_floorMod_7cf53_1 rfl ?_
  refine j_irem 2 cx dJ9_floorMod_7cf53_2 (by decide) ?_
  refine j_top (nI (d % 7)) (pk_rem (a := d) (d := 7) (by omega) (by decide) (by decide)) ?_
  refine j_istore_n 3 cx [(2, .int (nI (d % 7))), (0, .int (nI d)), (1, .int 7)] dJ9_floorMod_7cf53_3 (by decide) rfl ?_
  refine j_iload_n 4 cx 1 dJ9_floorMod_7cf53_4 rfl ?_
  refine j_iload_n 5 cx 2 dJ9_floorMod_7cf53_5 rfl ?_
  refine j_ixor 6 cx dJ9_floorMod_7cf53_6 ?_
  refine j_if_ge_T 7 cx 18 dJ9_floorMod_7cf53_7 (by decide) (fm_xor hd) ?_
  refine j_iload_n 18 cx 0 dJ9_floorMod_7cf53_18 rfl ?_
  exact fin () _ _ _ _ dJ9_floorMod_7cf53_19 rfl rfl rfl trivial
set_option maxRecDepth 100000 in
set_option maxHeartbeats 4000000 in
theorem c_X1_isHoliday (l : Launch) (G : pG) (o : Nat) (q : Nat → Nat) (σ : Nu) (hd : σ 0 0 = nI (dyN σ)) (hd2 : dyN σ < 1000000) : KI l G yX1_isHoliday wsX1_isHoliday ({ frames := 1, cells := 0, slots := 0, locals := 22 } : Room) [.ref o] (wN G o q σ) (S := Unit) (fun _ => True) (fun u => bI (hol σ)) (fun u => wN G o q σ) := by
  refine ki_of [(0, .ref o)] (own := RX1) (cc := cX1_isHoliday) (nL := 1) (by decide +kernel) rfl rfl (Nat.le_of_ble_eq_true rfl) rfl (fun _ => rfl) (fun K cx fin => ?_)
  refine j_aload_n 0 cx 0 dX1_isHoliday_0 rfl ?_
  refine j_get 1 cx 0 4 (T := TX1) (v := .ref (q 1)) (fun _ h => List.mem_cons_of_mem _ (List.mem_append_right _ (h))) (List.mem_of_getElem? (i := 1) rfl) (ci := 0) rfl (by decide) rfl rfl rfl dX1_isHoliday_1 ?_
  refine j_aload_n 4 cx 0 dX1_isHoliday_4 rfl ?_
  refine j_get 5 cx 0 0 (T := TX1) (v := .int (σ 0 0)) (fun _ h => List.mem_cons_of_mem _ (List.mem_append_right _ (h))) (List.mem_of_getElem? (i := 2) rfl) (ci := 0) rfl (by decide) rfl rfl rfl dX1_isHoliday_5 ?_
  refine j_top (nI (dyN σ)) hd ?_
  refine j_bipush 8 cx 7 dX1_isHoliday_8 (by decide) ?_
  refine j_callS_i 10 cx 2 [] [.int (nI (dyN σ)), .int 7] (fun _ => wN G o q σ) (c_J9_floorMod (kl K) G (dyN σ) hd2) gX1_isHoliday_J9_floorMod_7cf53 rfl rfl rfl ⟨by decide, by decide, rfl⟩ ⟨Nat.le_of_ble_eq_true rfl, Nat.le_of_ble_eq_true rfl⟩ ⟨Nat.zero_le _, Nat.zero_le _⟩ rfl (by decide) rfl rfl (Nat.le_of_ble_eq_true rfl) dX1_isHoliday_10 (fun _ => rfl) (fun zu1 zk1 => ?_)
  refine j_top (nI (dyN σ % 7)) rfl ?_
  refine j_iald 13 cx 1 (dyN σ % 7) rfl rfl (by omega) (by decide) dX1_isHoliday_13 ?_
  refine j_iconst 14 cx 1 dX1_isHoliday_14 (by decide) ?_
  refine j_icmp_ne 15 cx 22 dX1_isHoliday_15 (by decide) (fun zc1 => ?_) (fun zc1 => ?_)
  · skip
    refine j_iconst 22 cx 0 dX1_isHoliday_22 (by decide) ?_
    exact fin () _ _ _ _ dX1_isHoliday_23 rfl (by simp [bI, hol, zc1]) rfl trivial
  · skip
    refine j_iconst 18 cx 1 dX1_isHoliday_18 (by decide) ?_
    refine j_goto 19 cx 23 dX1_isHoliday_19 (by decide) ?_
    exact fin () _ _ _ _ dX1_isHoliday_23 rfl (by simp [bI, hol, zc1]) rfl trivial
set_option maxRecDepth 100000 in
set_option maxHeartbeats 4000000 in
theorem c_X1_isFull (l : Launch) (G : pG) (o : Nat) (q : Nat → Nat) (σ : Nu) (hz : σ 0 3 = nI (szN σ)) (hz8 : szN σ ≤ 8) : KI l G yX1_isFull wsX1_isFull ({ frames := 0, cells := 0, slots := 0, locals := 0 } : Room) [.ref o] (wN G o q σ) (S := Unit) (fun _ => True) (fun u => bI (decide (8 ≤ szN σ))) (fun u => wN G o q σ) := by
  refine ki_of [(0, .ref o)] (own := RX1) (cc := cX1_isFull) (nL := 1) (by decide +kernel) rfl rfl (Nat.le_of_ble_eq_true rfl) rfl (fun _ => rfl) (fun K cx fin => ?_)
  refine j_aload_n 0 cx 0 dX1_isFull_0 rfl ?_
  refine j_get 1 cx 0 3 (T := TX1) (v := .int (σ 0 3)) (fun _ h => List.mem_cons_of_mem _ (List.mem_append_right _ (h))) (List.mem_of_getElem? (i := 1) rfl) (ci := 0) rfl (by decide) rfl rfl rfl dX1_isFull_1 ?_
  refine j_top (nI (szN σ)) hz ?_
  refine j_bipush 4 cx 8 dX1_isFull_4 (by decide) ?_
  refine j_icmp_lt 6 cx 13 dX1_isFull_6 (by decide) (fun zc1 => ?_) (fun zc1 => ?_)
  · skip
    refine j_iconst 13 cx 0 dX1_isFull_13 (by decide) ?_
    exact fin () _ _ _ _ dX1_isFull_14 rfl (by have e : (8 ≤ szN σ) = ((8 : Int32) ≤ nI (szN σ)) := propext (nI_leI (a := 8) (by omega) (by omega)).symm; simp only [bI, e]; simp [zc1]) rfl trivial
  · skip
    refine j_iconst 9 cx 1 dX1_isFull_9 (by decide) ?_
    refine j_goto 10 cx 14 dX1_isFull_10 (by decide) ?_
    exact fin () _ _ _ _ dX1_isFull_14 rfl (by have e : (8 ≤ szN σ) = ((8 : Int32) ≤ nI (szN σ)) := propext (nI_leI (a := 8) (by omega) (by omega)).symm; simp only [bI, e]; simp [zc1]) rfl trivial
set_option maxRecDepth 100000 in
set_option maxHeartbeats 4000000 in
theorem c_X1_needs (l : Launch) (G : pG) (o : Nat) (q : Nat → Nat) (σ : Nu) (p : Nat) (hp : p < 8) : KI l G yX1_needs wsX1_needs ({ frames := 1, cells := 0, slots := 0, locals := 22 } : Room) [.ref o, .int (nI p)] (wN G o q σ) (S := Unit) (fun _ => True) (fun u => needF σ p) (fun u => wN G o q σ) := by
  refine ki_of [(0, .ref o), (1, .int (nI p))] (own := RX1) (cc := cX1_needs) (nL := 2) (by decide +kernel) rfl rfl (Nat.le_of_ble_eq_true rfl) rfl (fun _ => rfl) (fun K cx fin => ?_)
  refine j_aload_n 0 cx 0 dX1_needs_0 rfl ?_
  refine j_get 1 cx 0 5 (T := TX1) (v := .ref (q 2)) (fun _ h => List.mem_cons_of_mem _ (List.mem_append_right _ (h))) (List.mem_of_getElem? (i := 1) rfl) (ci := 0) rfl (by decide) rfl rfl rfl dX1_needs_1 ?_
  refine j_iload_n 4 cx 1 dX1_needs_4 rfl ?_
  refine j_iald 5 cx 2 p rfl rfl (by omega) (by decide) dX1_needs_5 ?_
  refine j_aload_n 6 cx 0 dX1_needs_6 rfl ?_
  refine j_get 7 cx 0 6 (T := TX1) (v := .ref (q 3)) (fun _ h => List.mem_cons_of_mem _ (List.mem_append_right _ (h))) (List.mem_of_getElem? (i := 2) rfl) (ci := 0) rfl (by decide) rfl rfl rfl dX1_needs_7 ?_
  refine j_iload_n 10 cx 1 dX1_needs_10 rfl ?_
  refine j_iald 11 cx 3 p rfl rfl (by omega) (by decide) dX1_needs_11 ?_
  refine j_callS_i 12 cx 2 [] [.int (σ 2 p), .int (σ 3 p)] (fun _ => wN G o q σ) (c_X0_needs (kl K) G (σ 2 p) (σ 3 p)) gX1_needs_X0_needs rfl rfl rfl ⟨by decide, by decide, rfl⟩ ⟨Nat.le_of_ble_eq_true rfl, Nat.le_of_ble_eq_true rfl⟩ ⟨Nat.zero_le _, Nat.zero_le _⟩ rfl (by decide) rfl rfl (Nat.le_of_ble_eq_true rfl) dX1_needs_12 (fun _ => rfl) (fun zu1 zk1 => ?_)
  refine j_top (kNeeds (σ 2 p) (σ 3 p)) rfl ?_
  exact fin () _ _ _ _ dX1_needs_15 rfl rfl rfl trivial
set_option maxRecDepth 100000 in
set_option maxHeartbeats 4000000 in
theorem c_X1_tires (l : Launch) (G : pG) (o : Nat) (q : Nat → Nat) (σ : Nu) (p : Nat) (hp : p < 8) : KI l G yX1_tires wsX1_tires ({ frames := 1, cells := 0, slots := 0, locals := 20 } : Room) [.ref o, .int (nI p)] (wN G o q σ) (S := Unit) (fun _ => True) (fun u => kTires (σ 2 p)) (fun u => wN G o q σ) := by
  refine ki_of [(0, .ref o), (1, .int (nI p))] (own := RX1) (cc := cX1_tires) (nL := 2) (by decide +kernel) rfl rfl (Nat.le_of_ble_eq_true rfl) rfl (fun _ => rfl) (fun K cx fin => ?_)
  refine j_aload_n 0 cx 0 dX1_tires_0 rfl ?_
  refine j_get 1 cx 0 5 (T := TX1) (v := .ref (q 2)) (fun _ h => List.mem_cons_of_mem _ (List.mem_append_right _ (h))) (List.mem_of_getElem? (i := 1) rfl) (ci := 0) rfl (by decide) rfl rfl rfl dX1_tires_1 ?_
  refine j_iload_n 4 cx 1 dX1_tires_4 rfl ?_
  refine j_iald 5 cx 2 p rfl rfl (by omega) (by decide) dX1_tires_5 ?_
  refine j_callS_i 6 cx 1 [] [.int (σ 2 p)] (fun _ => wN G o q σ) (c_X0_tires (kl K) G (σ 2 p)) gX1_tires_X0_tires rfl rfl rfl ⟨by decide, by decide, rfl⟩ ⟨Nat.le_of_ble_eq_true rfl, Nat.le_of_ble_eq_true rfl⟩ ⟨Nat.zero_le _, Nat.zero_le _⟩ rfl (by decide) rfl rfl (Nat.le_of_ble_eq_true rfl) dX1_tires_6 (fun _ => rfl) (fun zu1 zk1 => ?_)
  refine j_top (kTires (σ 2 p)) rfl ?_
  exact fin () _ _ _ _ dX1_tires_9 rfl rfl rfl trivial
set_option maxRecDepth 100000 in
set_option maxHeartbeats 4000000 in
theorem c_X1_isDone (l : Launch) (G : pG) (o : Nat) (q : Nat → Nat) (σ : Nu) (p : Nat) (hp : p < 8) : KI l G yX1_isDone wsX1_isDone ({ frames := 1, cells := 0, slots := 0, locals := 22 } : Room) [.ref o, .int (nI p)] (wN G o q σ) (S := Unit) (fun _ => True) (fun u => bI (done σ p)) (fun u => wN G o q σ) := by
  refine ki_of [(0, .ref o), (1, .int (nI p))] (own := RX1) (cc := cX1_isDone) (nL := 2) (by decide +kernel) rfl rfl (Nat.le_of_ble_eq_true rfl) rfl (fun _ => rfl) (fun K cx fin => ?_)
  refine j_aload_n 0 cx 0 dX1_isDone_0 rfl ?_
  refine j_get 1 cx 0 7 (T := TX1) (v := .ref (q 4)) (fun _ h => List.mem_cons_of_mem _ (List.mem_append_right _ (h))) (List.mem_of_getElem? (i := 1) rfl) (ci := 0) rfl (by decide) rfl rfl rfl dX1_isDone_1 ?_
  refine j_iload_n 4 cx 1 dX1_isDone_4 rfl ?_
  refine j_iald 5 cx 4 p rfl rfl (by omega) (by decide) dX1_isDone_5 ?_
  refine j_aload_n 6 cx 0 dX1_isDone_6 rfl ?_
  refine j_get 7 cx 0 5 (T := TX1) (v := .ref (q 2)) (fun _ h => List.mem_cons_of_mem _ (List.mem_append_right _ (h))) (List.mem_of_getElem? (i := 2) rfl) (ci := 0) rfl (by decide) rfl rfl rfl dX1_isDone_7 ?_
  refine j_iload_n 10 cx 1 dX1_isDone_10 rfl ?_
  refine j_iald 11 cx 2 p rfl rfl (by omega) (by decide) dX1_isDone_11 ?_
  refine j_aload_n 12 cx 0 dX1_isDone_12 rfl ?_
  refine j_get 13 cx 0 6 (T := TX1) (v := .ref (q 3)) (fun _ h => List.mem_cons_of_mem _ (List.mem_append_right _ (h))) (List.mem_of_getElem? (i := 3) rfl) (ci := 0) rfl (by decide) rfl rfl rfl dX1_isDone_13 ?_
  refine j_iload_n 16 cx 1 dX1_isDone_16 rfl ?_
  refine j_iald 17 cx 3 p rfl rfl (by omega) (by decide) dX1_isDone_17 ?_
  refine j_callS_i 18 cx 2 [] [.int (σ 2 p), .int (σ 3 p)] (fun _ => wN G o q σ) (c_X0_needs (kl K) G (σ 2 p) (σ 3 p)) gX1_isDone_X0_needs rfl rfl rfl ⟨by decide, by decide, rfl⟩ ⟨Nat.le_of_ble_eq_true rfl, Nat.le_of_ble_eq_true rfl⟩ ⟨Nat.zero_le _, Nat.zero_le _⟩ rfl (by decide) rfl rfl (Nat.le_of_ble_eq_true rfl) dX1_isDone_18 (fun _ => rfl) (fun zu1 zk1 => ?_)
  refine j_top (kNeeds (σ 2 p) (σ 3 p)) rfl ?_
  refine j_icmp_lt 21 cx 28 dX1_isDone_21 (by decide) (fun zc1 => ?_) (fun zc1 => ?_)
  · skip
    refine j_iconst 28 cx 0 dX1_isDone_28 (by decide) ?_
    exact fin () _ _ _ _ dX1_isDone_29 rfl (by rw [show done σ p = false from decide_eq_false (Int32.not_le.mpr zc1)]; rfl) rfl trivial
  · skip
    refine j_iconst 24 cx 1 dX1_isDone_24 (by decide) ?_
    refine j_goto 25 cx 29 dX1_isDone_25 (by decide) ?_
    exact fin () _ _ _ _ dX1_isDone_29 rfl (by rw [show done σ p = true from decide_eq_true (Int32.not_lt.mp zc1)]; rfl) rfl trivial
set_option maxRecDepth 100000 in
set_option maxHeartbeats 4000000 in
theorem c_X1_gives (l : Launch) (G : pG) (o : Nat) (q : Nat → Nat) (σ : Nu) (p : Nat) (hI : Inv σ) (hp : p < 8) : KI l G yX1_gives wsX1_gives ({ frames := 2, cells := 0, slots := 0, locals := 46 } : Room) [.ref o, .int (nI p)] (wN G o q σ) (S := Unit) (fun _ => True) (fun u => giveF σ p) (fun u => wN G o q σ) := by
  refine ki_of [(0, .ref o), (1, .int (nI p))] (own := RX1) (cc := cX1_gives) (nL := 2) (by decide +kernel) rfl rfl (Nat.le_of_ble_eq_true rfl) rfl (fun _ => rfl) (fun K cx fin => ?_)
  refine j_aload_n 0 cx 0 dX1_gives_0 rfl ?_
  refine j_get 1 cx 0 5 (T := TX1) (v := .ref (q 2)) (fun _ h => List.mem_cons_of_mem _ (List.mem_append_right _ (h))) (List.mem_of_getElem? (i := 1) rfl) (ci := 0) rfl (by decide) rfl rfl rfl dX1_gives_1 ?_
  refine j_iload_n 4 cx 1 dX1_gives_4 rfl ?_
  refine j_iald 5 cx 2 p rfl rfl (by omega) (by decide) dX1_gives_5 ?_
  refine j_aload_n 6 cx 0 dX1_gives_6 rfl ?_
  refine j_get 7 cx 0 1 (T := TX1) (v := .int (σ 0 1)) (fun _ h => List.mem_cons_of_mem _ (List.mem_append_right _ (h))) (List.mem_of_getElem? (i := 2) rfl) (ci := 0) rfl (by decide) rfl rfl rfl dX1_gives_7 ?_
  refine j_aload_n 10 cx 0 dX1_gives_10 rfl ?_
  refine j_callV_i 11 cx 0 [0, 1, 2, 3, 4, 5, 6] [] (fun _ => wN G o q σ) (c_X1_isHoliday (kl K) G o q σ hI.dy hI.dyM) gX1_gives_X1_isHoliday rfl rfl rfl ⟨rfl, by decide, by decide, rfl⟩ ⟨Nat.le_of_ble_eq_true rfl, Nat.le_of_ble_eq_true rfl⟩ ⟨Nat.zero_le _, Nat.zero_le _⟩ rfl (by decide) (ci := 0) 0 rfl rfl rfl rfl rfl (Nat.le_of_ble_eq_true rfl) dX1_gives_11 (fun _ => rfl) (fun zu1 zk1 => ?_)
  refine j_top (bI (hol σ)) rfl ?_
  refine j_callS_i 14 cx 3 [] [.int (σ 2 p), .int (σ 0 1), .int (bI (hol σ))] (fun _ => wN G o q σ) (c_X0_gives (kl K) G (σ 2 p) (σ 0 1) (hol σ)) gX1_gives_X0_gives rfl rfl rfl ⟨by decide, by decide, rfl⟩ ⟨Nat.le_of_ble_eq_true rfl, Nat.le_of_ble_eq_true rfl⟩ ⟨Nat.zero_le _, Nat.zero_le _⟩ rfl (by decide) rfl rfl (Nat.le_of_ble_eq_true rfl) dX1_gives_14 (fun _ => rfl) (fun zu2 zk2 => ?_)
  refine j_top (kGives (σ 2 p) (σ 0 1) (hol σ)) rfl ?_
  exact fin () _ _ _ _ dX1_gives_17 rfl rfl rfl trivial
set_option maxRecDepth 100000 in
set_option maxHeartbeats 4000000 in
theorem c_X1_calls (l : Launch) (G : pG) (o : Nat) (q : Nat → Nat) (σ : Nu) (p : Nat) (hI : Inv σ) (hp : p < szN σ) : KI l G yX1_calls wsX1_calls ({ frames := 2, cells := 0, slots := 0, locals := 48 } : Room) [.ref o, .int (nI p), .int (nI (undN σ (szN σ)))] (wN G o q σ) (S := Unit) (fun _ => True) (fun u => callF σ p) (fun u => wN G o q σ) := by
  have h8 := hI.sz8
  refine ki_of [(0, .ref o), (1, .int (nI p)), (2, .int (nI (undN σ (szN σ))))] (own := RX1) (cc := cX1_calls) (nL := 4) (by decide +kernel) rfl rfl (Nat.le_of_ble_eq_true rfl) rfl (fun _ => rfl) (fun K cx fin => ?_)
  refine j_aload_n 0 cx 0 dX1_calls_0 rfl ?_
  refine j_iload_n 1 cx 1 dX1_calls_1 rfl ?_
  refine j_callV_i 2 cx 1 [0, 1, 2, 3, 4, 5, 6] [.int (nI p)] (fun _ => wN G o q σ) (c_X1_isDone (kl K) G o q σ p  (by omega)) gX1_calls_X1_isDone rfl rfl rfl ⟨rfl, by decide, by decide, rfl⟩ ⟨Nat.le_of_ble_eq_true rfl, Nat.le_of_ble_eq_true rfl⟩ ⟨Nat.zero_le _, Nat.zero_le _⟩ rfl (by decide) (ci := 0) 0 rfl rfl rfl rfl rfl (Nat.le_of_ble_eq_true rfl) dX1_calls_2 (fun _ => rfl) (fun zu1 zk1 => ?_)
  refine j_top (bI (done σ p)) rfl ?_
  refine j_ifB_eq 5 cx 12 dX1_calls_5 (by decide) (fun zc1 => ?_) (fun zc1 => ?_)
  · skip
    refine j_iload_n 12 cx 2 dX1_calls_12 rfl ?_
    refine j_iconst 13 cx 1 dX1_calls_13 (by decide) ?_
    refine j_isub 14 cx dX1_calls_14 ?_
    refine j_top (nI (undN σ (szN σ) - 1)) (pk_sub (b := 1) (undN_pos zc1 _ hp)) ?_
    refine j_istore_n 15 cx [(3, .int (nI (undN σ (szN σ) - 1))), (0, .ref o), (1, .int (nI p)), (2, .int (nI (undN σ (szN σ))))] dX1_calls_15 (by decide) rfl ?_
    refine j_aload_n 16 cx 1 dX1_calls_16 rfl ?_
    refine j_get 17 cx 0 5 (T := TX1) (v := .ref (q 2)) (fun _ h => List.mem_cons_of_mem _ (List.mem_append_right _ (h))) (List.mem_of_getElem? (i := 1) rfl) (ci := 0) rfl (by decide) rfl rfl rfl dX1_calls_17 ?_
    refine j_iload_n 20 cx 2 dX1_calls_20 rfl ?_
    refine j_iald 21 cx 2 p rfl rfl (by omega) (by decide) dX1_calls_21 ?_
    refine j_aload_n 22 cx 1 dX1_calls_22 rfl ?_
    refine j_get 23 cx 0 6 (T := TX1) (v := .ref (q 3)) (fun _ h => List.mem_cons_of_mem _ (List.mem_append_right _ (h))) (List.mem_of_getElem? (i := 2) rfl) (ci := 0) rfl (by decide) rfl rfl rfl dX1_calls_23 ?_
    refine j_iload_n 26 cx 2 dX1_calls_26 rfl ?_
    refine j_iald 27 cx 3 p rfl rfl (by omega) (by decide) dX1_calls_27 ?_
    refine j_aload_n 28 cx 1 dX1_calls_28 rfl ?_
    refine j_get 29 cx 0 0 (T := TX1) (v := .int (σ 0 0)) (fun _ h => List.mem_cons_of_mem _ (List.mem_append_right _ (h))) (List.mem_of_getElem? (i := 3) rfl) (ci := 0) rfl (by decide) rfl rfl rfl dX1_calls_29 ?_
    refine j_aload_n 32 cx 1 dX1_calls_32 rfl ?_
    refine j_get 33 cx 0 8 (T := TX1) (v := .ref (q 5)) (fun _ h => List.mem_cons_of_mem _ (List.mem_append_right _ (h))) (List.mem_of_getElem? (i := 4) rfl) (ci := 0) rfl (by decide) rfl rfl rfl dX1_calls_33 ?_
    refine j_iload_n 36 cx 2 dX1_calls_36 rfl ?_
    refine j_iald 37 cx 5 p rfl rfl (by omega) (by decide) dX1_calls_37 ?_
    refine j_isub 38 cx dX1_calls_38 ?_
    refine j_aload_n 39 cx 1 dX1_calls_39 rfl ?_
    refine j_get 40 cx 0 1 (T := TX1) (v := .int (σ 0 1)) (fun _ h => List.mem_cons_of_mem _ (List.mem_append_right _ (h))) (List.mem_of_getElem? (i := 5) rfl) (ci := 0) rfl (by decide) rfl rfl rfl dX1_calls_40 ?_
    refine j_iload_n 43 cx 0 dX1_calls_43 rfl ?_
    refine j_if_le 44 cx 51 dX1_calls_44 (by decide) (fun zc2 => ?_) (fun zc2 => ?_)
    · skip
      refine j_iconst 51 cx 0 dX1_calls_51 (by decide) ?_
      refine j_callS_i 52 cx 5 [] [.int (σ 2 p), .int (σ 3 p), .int ((σ 0 0) - (σ 5 p)), .int (σ 0 1), .int (bI (false))] (fun _ => wN G o q σ) (c_X0_calls (kl K) G (σ 2 p) (σ 3 p) ((σ 0 0) - (σ 5 p)) (σ 0 1) false) gX1_calls_X0_calls rfl rfl rfl ⟨by decide, by decide, rfl⟩ ⟨Nat.le_of_ble_eq_true rfl, Nat.le_of_ble_eq_true rfl⟩ ⟨Nat.zero_le _, Nat.zero_le _⟩ rfl (by decide) rfl rfl (Nat.le_of_ble_eq_true rfl) dX1_calls_52 (fun _ => rfl) (fun zu2 zk2 => ?_)
      refine j_top (kCalls (σ 2 p) (σ 3 p) ((σ 0 0) - (σ 5 p)) (σ 0 1) false) rfl ?_
      exact fin () _ _ _ _ dX1_calls_55 rfl (callF_f (fun h => by have h1 := (ano_in _ hp).mp h; simp only [zc1, if_true, Bool.false_eq_true, if_false] at h1; have h3 := undN_le σ (szN σ); have h2 := und_0 (by omega) zc2; omega)) rfl trivial
    · skip
      refine j_iconst 47 cx 1 dX1_calls_47 (by decide) ?_
      refine j_goto 48 cx 52 dX1_calls_48 (by decide) ?_
      refine j_callS_i 52 cx 5 [] [.int (σ 2 p), .int (σ 3 p), .int ((σ 0 0) - (σ 5 p)), .int (σ 0 1), .int (bI (true))] (fun _ => wN G o q σ) (c_X0_calls (kl K) G (σ 2 p) (σ 3 p) ((σ 0 0) - (σ 5 p)) (σ 0 1) true) gX1_calls_X0_calls rfl rfl rfl ⟨by decide, by decide, rfl⟩ ⟨Nat.le_of_ble_eq_true rfl, Nat.le_of_ble_eq_true rfl⟩ ⟨Nat.zero_le _, Nat.zero_le _⟩ rfl (by decide) rfl rfl (Nat.le_of_ble_eq_true rfl) dX1_calls_52 (fun _ => rfl) (fun zu3 zk3 => ?_)
      refine j_top (kCalls (σ 2 p) (σ 3 p) ((σ 0 0) - (σ 5 p)) (σ 0 1) true) rfl ?_
      exact fin () _ _ _ _ dX1_calls_55 rfl (callF_t ((ano_in _ hp).mpr (by simp only [zc1, if_true, Bool.false_eq_true, if_false]; (have := und_1 zc2; omega)))) rfl trivial
  · skip
    refine j_iload_n 8 cx 2 dX1_calls_8 rfl ?_
    refine j_goto 9 cx 15 dX1_calls_9 (by decide) ?_
    refine j_istore_n 15 cx [(3, .int (nI (undN σ (szN σ)))), (0, .ref o), (1, .int (nI p)), (2, .int (nI (undN σ (szN σ))))] dX1_calls_15 (by decide) rfl ?_
    refine j_aload_n 16 cx 1 dX1_calls_16 rfl ?_
    refine j_get 17 cx 0 5 (T := TX1) (v := .ref (q 2)) (fun _ h => List.mem_cons_of_mem _ (List.mem_append_right _ (h))) (List.mem_of_getElem? (i := 1) rfl) (ci := 0) rfl (by decide) rfl rfl rfl dX1_calls_17 ?_
    refine j_iload_n 20 cx 2 dX1_calls_20 rfl ?_
    refine j_iald 21 cx 2 p rfl rfl (by omega) (by decide) dX1_calls_21 ?_
    refine j_aload_n 22 cx 1 dX1_calls_22 rfl ?_
    refine j_get 23 cx 0 6 (T := TX1) (v := .ref (q 3)) (fun _ h => List.mem_cons_of_mem _ (List.mem_append_right _ (h))) (List.mem_of_getElem? (i := 2) rfl) (ci := 0) rfl (by decide) rfl rfl rfl dX1_calls_23 ?_
    refine j_iload_n 26 cx 2 dX1_calls_26 rfl ?_
    refine j_iald 27 cx 3 p rfl rfl (by omega) (by decide) dX1_calls_27 ?_
    refine j_aload_n 28 cx 1 dX1_calls_28 rfl ?_
    refine j_get 29 cx 0 0 (T := TX1) (v := .int (σ 0 0)) (fun _ h => List.mem_cons_of_mem _ (List.mem_append_right _ (h))) (List.mem_of_getElem? (i := 3) rfl) (ci := 0) rfl (by decide) rfl rfl rfl dX1_calls_29 ?_
    refine j_aload_n 32 cx 1 dX1_calls_32 rfl ?_
    refine j_get 33 cx 0 8 (T := TX1) (v := .ref (q 5)) (fun _ h => List.mem_cons_of_mem _ (List.mem_append_right _ (h))) (List.mem_of_getElem? (i := 4) rfl) (ci := 0) rfl (by decide) rfl rfl rfl dX1_calls_33 ?_
    refine j_iload_n 36 cx 2 dX1_calls_36 rfl ?_
    refine j_iald 37 cx 5 p rfl rfl (by omega) (by decide) dX1_calls_37 ?_
    refine j_isub 38 cx dX1_calls_38 ?_
    refine j_aload_n 39 cx 1 dX1_calls_39 rfl ?_
    refine j_get 40 cx 0 1 (T := TX1) (v := .int (σ 0 1)) (fun _ h => List.mem_cons_of_mem _ (List.mem_append_right _ (h))) (List.mem_of_getElem? (i := 5) rfl) (ci := 0) rfl (by decide) rfl rfl rfl dX1_calls_40 ?_
    refine j_iload_n 43 cx 0 dX1_calls_43 rfl ?_
    refine j_if_le 44 cx 51 dX1_calls_44 (by decide) (fun zc3 => ?_) (fun zc3 => ?_)
    · skip
      refine j_iconst 51 cx 0 dX1_calls_51 (by decide) ?_
      refine j_callS_i 52 cx 5 [] [.int (σ 2 p), .int (σ 3 p), .int ((σ 0 0) - (σ 5 p)), .int (σ 0 1), .int (bI (false))] (fun _ => wN G o q σ) (c_X0_calls (kl K) G (σ 2 p) (σ 3 p) ((σ 0 0) - (σ 5 p)) (σ 0 1) false) gX1_calls_X0_calls rfl rfl rfl ⟨by decide, by decide, rfl⟩ ⟨Nat.le_of_ble_eq_true rfl, Nat.le_of_ble_eq_true rfl⟩ ⟨Nat.zero_le _, Nat.zero_le _⟩ rfl (by decide) rfl rfl (Nat.le_of_ble_eq_true rfl) dX1_calls_52 (fun _ => rfl) (fun zu4 zk4 => ?_)
      refine j_top (kCalls (σ 2 p) (σ 3 p) ((σ 0 0) - (σ 5 p)) (σ 0 1) false) rfl ?_
      exact fin () _ _ _ _ dX1_calls_55 rfl (callF_f (fun h => by have h1 := (ano_in _ hp).mp h; simp only [zc1, if_true, Bool.false_eq_true, if_false] at h1; have h3 := undN_le σ (szN σ); have h2 := und_0 (by omega) zc3; omega)) rfl trivial
    · skip
      refine j_iconst 47 cx 1 dX1_calls_47 (by decide) ?_
      refine j_goto 48 cx 52 dX1_calls_48 (by decide) ?_
      refine j_callS_i 52 cx 5 [] [.int (σ 2 p), .int (σ 3 p), .int ((σ 0 0) - (σ 5 p)), .int (σ 0 1), .int (bI (true))] (fun _ => wN G o q σ) (c_X0_calls (kl K) G (σ 2 p) (σ 3 p) ((σ 0 0) - (σ 5 p)) (σ 0 1) true) gX1_calls_X0_calls rfl rfl rfl ⟨by decide, by decide, rfl⟩ ⟨Nat.le_of_ble_eq_true rfl, Nat.le_of_ble_eq_true rfl⟩ ⟨Nat.zero_le _, Nat.zero_le _⟩ rfl (by decide) rfl rfl (Nat.le_of_ble_eq_true rfl) dX1_calls_52 (fun _ => rfl) (fun zu5 zk5 => ?_)
      refine j_top (kCalls (σ 2 p) (σ 3 p) ((σ 0 0) - (σ 5 p)) (σ 0 1) true) rfl ?_
      exact fin () _ _ _ _ dX1_calls_55 rfl (callF_t ((ano_in _ hp).mpr (by simp only [zc1, if_true, Bool.false_eq_true, if_false]; exact und_1 zc3))) rfl trivial
set_option maxRecDepth 100000 in
set_option maxHeartbeats 4000000 in
theorem c_X1_undone (l : Launch) (G : pG) (o : Nat) (q : Nat → Nat) (σ : Nu) (hI : Inv σ) : KI l G yX1_undone wsX1_undone ({ frames := 2, cells := 0, slots := 0, locals := 43 } : Room) [.ref o] (wN G o q σ) (S := Unit) (fun _ => True) (fun u => nI (undN σ (szN σ))) (fun u => wN G o q σ) := by
  have h8 := hI.sz8
  refine ki_of [(0, .ref o)] (own := RX1) (cc := cX1_undone) (nL := 3) (by decide +kernel) rfl rfl (Nat.le_of_ble_eq_true rfl) rfl (fun _ => rfl) (fun K cx fin => ?_)
  refine j_iconst 0 cx 0 dX1_undone_0 (by decide) ?_
  refine j_istore_n 1 cx [(1, .int 0), (0, .ref o)] dX1_undone_1 (by decide) rfl ?_
  refine j_iconst 2 cx 0 dX1_undone_2 (by decide) ?_
  refine j_istore_n 3 cx [(2, .int 0), (1, .int 0), (0, .ref o)] dX1_undone_3 (by decide) rfl ?_
  have L4 : ∀ d : Nat, ∀ (k : Nat), (k + d = szN σ) → JJ G K 0 0 (wN G o q σ) [(2, .int (nI k)), (1, .int (nI (undN σ k))), (0, .ref o)] 4 [] := by
    intro d
    induction d with
    | zero =>
      intro k hk
      refine j_iload_n 4 cx 0 dX1_undone_4 rfl ?_
      refine j_aload_n 5 cx 2 dX1_undone_5 rfl ?_
      refine j_get 6 cx 0 3 (T := TX1) (v := .int (σ 0 3)) (fun _ h => List.mem_cons_of_mem _ (List.mem_append_right _ (h))) (List.mem_of_getElem? (i := 1) rfl) (ci := 0) rfl (by decide) rfl rfl rfl dX1_undone_6 ?_
      refine j_top (nI (szN σ)) hI.sz ?_
      refine j_icmp_ge_T 9 cx 29 dX1_undone_9 (by decide) (nI_le (by omega) (by omega)) ?_
      refine j_iload_n 29 cx 1 dX1_undone_29 rfl ?_
      exact fin () _ _ _ _ dX1_undone_30 rfl (by rw [show k = szN σ from by omega]) rfl trivial
    | succ d ih4 =>
      intro k hk
      refine j_iload_n 4 cx 0 dX1_undone_4 rfl ?_
      refine j_aload_n 5 cx 2 dX1_undone_5 rfl ?_
      refine j_get 6 cx 0 3 (T := TX1) (v := .int (σ 0 3)) (fun _ h => List.mem_cons_of_mem _ (List.mem_append_right _ (h))) (List.mem_of_getElem? (i := 1) rfl) (ci := 0) rfl (by decide) rfl rfl rfl dX1_undone_6 ?_
      refine j_top (nI (szN σ)) hI.sz ?_
      refine j_icmp_ge_F 9 cx 29 dX1_undone_9 (by decide) (nI_ge (by omega) (by omega)) ?_
      refine j_aload_n 12 cx 2 dX1_undone_12 rfl ?_
      refine j_iload_n 13 cx 0 dX1_undone_13 rfl ?_
      refine j_callV_i 14 cx 1 [0, 1, 2, 3, 4, 5, 6] [.int (nI k)] (fun _ => wN G o q σ) (c_X1_isDone (kl K) G o q σ k  (by omega)) gX1_undone_X1_isDone rfl rfl rfl ⟨rfl, by decide, by decide, rfl⟩ ⟨Nat.le_of_ble_eq_true rfl, Nat.le_of_ble_eq_true rfl⟩ ⟨Nat.zero_le _, Nat.zero_le _⟩ rfl (by decide) (ci := 0) 0 rfl rfl rfl rfl rfl (Nat.le_of_ble_eq_true rfl) dX1_undone_14 (fun _ => rfl) (fun zu1 zk1 => ?_)
      refine j_top (bI (done σ k)) rfl ?_
      refine j_ifB_ne 17 cx 23 dX1_undone_17 (by decide) (fun zc1 => ?_) (fun zc1 => ?_)
      · skip
        refine j_iinc 23 cx [(2, .int (nI (k + 1))), (1, .int (nI (undN σ k))), (0, .ref o)] 0 (nI (k + 1)) dX1_undone_23 rfl (iinc1 k) (by decide) rfl ?_
        refine j_goto 26 cx 4 dX1_undone_26 (by decide) ?_
        have h9 := ih4 (k + 1)  (by omega)
        rw [show undN σ (k + 1) = undN σ k from by simp [undN, zc1]] at h9
        exact h9
      · skip
        refine j_iinc 20 cx [(1, .int (nI ((undN σ k) + 1))), (2, .int (nI k)), (0, .ref o)] 1 (nI ((undN σ k) + 1)) dX1_undone_20 rfl (iinc1 (undN σ k)) (by decide) rfl ?_
        refine j_iinc 23 cx [(2, .int (nI (k + 1))), (1, .int (nI ((undN σ k) + 1))), (0, .ref o)] 1 (nI (k + 1)) dX1_undone_23 rfl (iinc1 k) (by decide) rfl ?_
        refine j_goto 26 cx 4 dX1_undone_26 (by decide) ?_
        have h9 := ih4 (k + 1)  (by omega)
        rw [show undN σ (k + 1) = undN σ k + 1 from by simp [undN, zc1]] at h9
        exact h9
  exact L4 (szN σ) 0 (by omega)
set_option maxRecDepth 100000 in
set_option maxHeartbeats 4000000 in
theorem c_X1_doneSet (l : Launch) (G : pG) (o : Nat) (q : Nat → Nat) (σ : Nu) (hI : Inv σ) : KI l G yX1_doneSet wsX1_doneSet ({ frames := 2, cells := 0, slots := 0, locals := 43 } : Room) [.ref o] (wN G o q σ) (S := Unit) (fun _ => True) (fun u => setF σ (done σ) (szN σ)) (fun u => wN G o q σ) := by
  have h8 := hI.sz8
  refine ki_of [(0, .ref o)] (own := RX1) (cc := cX1_doneSet) (nL := 3) (by decide +kernel) rfl rfl (Nat.le_of_ble_eq_true rfl) rfl (fun _ => rfl) (fun K cx fin => ?_)
  refine j_iconst 0 cx 0 dX1_doneSet_0 (by decide) ?_
  refine j_istore_n 1 cx [(1, .int 0), (0, .ref o)] dX1_doneSet_1 (by decide) rfl ?_
  refine j_iconst 2 cx 0 dX1_doneSet_2 (by decide) ?_
  refine j_istore_n 3 cx [(2, .int 0), (1, .int 0), (0, .ref o)] dX1_doneSet_3 (by decide) rfl ?_
  have L4 : ∀ d : Nat, ∀ (k : Nat), (k + d = szN σ) → JJ G K 0 0 (wN G o q σ) [(2, .int (nI k)), (1, .int (setF σ (done σ) k)), (0, .ref o)] 4 [] := by
    intro d
    induction d with
    | zero =>
      intro k hk
      refine j_iload_n 4 cx 0 dX1_doneSet_4 rfl ?_
      refine j_aload_n 5 cx 2 dX1_doneSet_5 rfl ?_
      refine j_get 6 cx 0 3 (T := TX1) (v := .int (σ 0 3)) (fun _ h => List.mem_cons_of_mem _ (List.mem_append_right _ (h))) (List.mem_of_getElem? (i := 1) rfl) (ci := 0) rfl (by decide) rfl rfl rfl dX1_doneSet_6 ?_
      refine j_top (nI (szN σ)) hI.sz ?_
      refine j_icmp_ge_T 9 cx 32 dX1_doneSet_9 (by decide) (nI_le (by omega) (by omega)) ?_
      refine j_iload_n 32 cx 1 dX1_doneSet_32 rfl ?_
      exact fin () _ _ _ _ dX1_doneSet_33 rfl (by rw [show k = szN σ from by omega]) rfl trivial
    | succ d ih4 =>
      intro k hk
      refine j_iload_n 4 cx 0 dX1_doneSet_4 rfl ?_
      refine j_aload_n 5 cx 2 dX1_doneSet_5 rfl ?_
      refine j_get 6 cx 0 3 (T := TX1) (v := .int (σ 0 3)) (fun _ h => List.mem_cons_of_mem _ (List.mem_append_right _ (h))) (List.mem_of_getElem? (i := 1) rfl) (ci := 0) rfl (by decide) rfl rfl rfl dX1_doneSet_6 ?_
      refine j_top (nI (szN σ)) hI.sz ?_
      refine j_icmp_ge_F 9 cx 32 dX1_doneSet_9 (by decide) (nI_ge (by omega) (by omega)) ?_
      refine j_aload_n 12 cx 2 dX1_doneSet_12 rfl ?_
      refine j_iload_n 13 cx 0 dX1_doneSet_13 rfl ?_
      refine j_callV_i 14 cx 1 [0, 1, 2, 3, 4, 5, 6] [.int (nI k)] (fun _ => wN G o q σ) (c_X1_isDone (kl K) G o q σ k  (by omega)) gX1_doneSet_X1_isDone rfl rfl rfl ⟨rfl, by decide, by decide, rfl⟩ ⟨Nat.le_of_ble_eq_true rfl, Nat.le_of_ble_eq_true rfl⟩ ⟨Nat.zero_le _, Nat.zero_le _⟩ rfl (by decide) (ci := 0) 0 rfl rfl rfl rfl rfl (Nat.le_of_ble_eq_true rfl) dX1_doneSet_14 (fun _ => rfl) (fun zu1 zk1 => ?_)
      refine j_top (bI (done σ k)) rfl ?_
      refine j_ifB_eq 17 cx 26 dX1_doneSet_17 (by decide) (fun zc1 => ?_) (fun zc1 => ?_)
      · skip
        refine j_iinc 26 cx [(2, .int (nI (k + 1))), (1, .int (setF σ (done σ) k)), (0, .ref o)] 0 (nI (k + 1)) dX1_doneSet_26 rfl (iinc1 k) (by decide) rfl ?_
        refine j_goto 29 cx 4 dX1_doneSet_29 (by decide) ?_
        have h9 := ih4 (k + 1)  (by omega)
        rw [show setF σ (done σ) (k + 1) = setF σ (done σ) k from by simp [setF, zc1]] at h9
        exact h9
      · skip
        refine j_iload_n 20 cx 1 dX1_doneSet_20 rfl ?_
        refine j_iconst 21 cx 1 dX1_doneSet_21 (by decide) ?_
        refine j_iload_n 22 cx 0 dX1_doneSet_22 rfl ?_
        refine j_ishl 23 cx dX1_doneSet_23 ?_
        refine j_ior 24 cx dX1_doneSet_24 ?_
        refine j_istore_n 25 cx [(1, .int ((setF σ (done σ) k) ||| (1 <<< ((nI k) &&& 31)))), (2, .int (nI k)), (0, .ref o)] dX1_doneSet_25 (by decide) rfl ?_
        refine j_iinc 26 cx [(2, .int (nI (k + 1))), (1, .int ((setF σ (done σ) k) ||| (1 <<< ((nI k) &&& 31)))), (0, .ref o)] 1 (nI (k + 1)) dX1_doneSet_26 rfl (iinc1 k) (by decide) rfl ?_
        refine j_goto 29 cx 4 dX1_doneSet_29 (by decide) ?_
        have h9 := ih4 (k + 1)  (by omega)
        rw [show setF σ (done σ) (k + 1) = setF σ (done σ) k ||| ((1 : Int32) <<< (nI k &&& 31)) from by simp [setF, zc1]] at h9
        exact h9
  exact L4 (szN σ) 0 (by omega)
set_option maxRecDepth 100000 in
set_option maxHeartbeats 4000000 in
theorem c_X1_behindhandSet (l : Launch) (G : pG) (o : Nat) (q : Nat → Nat) (σ : Nu) (hI : Inv σ) : KI l G yX1_behindhandSet wsX1_behindhandSet ({ frames := 2, cells := 0, slots := 0, locals := 43 } : Room) [.ref o] (wN G o q σ) (S := Unit) (fun _ => True) (fun u => setF σ (behF σ) (szN σ)) (fun u => wN G o q σ) := by
  have h8 := hI.sz8
  refine ki_of [(0, .ref o)] (own := RX1) (cc := cX1_behindhandSet) (nL := 3) (by decide +kernel) rfl rfl (Nat.le_of_ble_eq_true rfl) rfl (fun _ => rfl) (fun K cx fin => ?_)
  refine j_iconst 0 cx 0 dX1_behindhandSet_0 (by decide) ?_
  refine j_istore_n 1 cx [(1, .int 0), (0, .ref o)] dX1_behindhandSet_1 (by decide) rfl ?_
  refine j_iconst 2 cx 0 dX1_behindhandSet_2 (by decide) ?_
  refine j_istore_n 3 cx [(2, .int 0), (1, .int 0), (0, .ref o)] dX1_behindhandSet_3 (by decide) rfl ?_
  have L4 : ∀ d : Nat, ∀ (k : Nat), (k + d = szN σ) → JJ G K 0 0 (wN G o q σ) [(2, .int (nI k)), (1, .int (setF σ (behF σ) k)), (0, .ref o)] 4 [] := by
    intro d
    induction d with
    | zero =>
      intro k hk
      refine j_iload_n 4 cx 0 dX1_behindhandSet_4 rfl ?_
      refine j_aload_n 5 cx 2 dX1_behindhandSet_5 rfl ?_
      refine j_get 6 cx 0 3 (T := TX1) (v := .int (σ 0 3)) (fun _ h => List.mem_cons_of_mem _ (List.mem_append_right _ (h))) (List.mem_of_getElem? (i := 1) rfl) (ci := 0) rfl (by decide) rfl rfl rfl dX1_behindhandSet_6 ?_
      refine j_top (nI (szN σ)) hI.sz ?_
      refine j_icmp_ge_T 9 cx 45 dX1_behindhandSet_9 (by decide) (nI_le (by omega) (by omega)) ?_
      refine j_iload_n 45 cx 1 dX1_behindhandSet_45 rfl ?_
      exact fin () _ _ _ _ dX1_behindhandSet_46 rfl (by rw [show k = szN σ from by omega]) rfl trivial
    | succ d ih4 =>
      intro k hk
      refine j_iload_n 4 cx 0 dX1_behindhandSet_4 rfl ?_
      refine j_aload_n 5 cx 2 dX1_behindhandSet_5 rfl ?_
      refine j_get 6 cx 0 3 (T := TX1) (v := .int (σ 0 3)) (fun _ h => List.mem_cons_of_mem _ (List.mem_append_right _ (h))) (List.mem_of_getElem? (i := 1) rfl) (ci := 0) rfl (by decide) rfl rfl rfl dX1_behindhandSet_6 ?_
      refine j_top (nI (szN σ)) hI.sz ?_
      refine j_icmp_ge_F 9 cx 45 dX1_behindhandSet_9 (by decide) (nI_ge (by omega) (by omega)) ?_
      refine j_aload_n 12 cx 2 dX1_behindhandSet_12 rfl ?_
      refine j_iload_n 13 cx 0 dX1_behindhandSet_13 rfl ?_
      refine j_callV_i 14 cx 1 [0, 1, 2, 3, 4, 5, 6] [.int (nI k)] (fun _ => wN G o q σ) (c_X1_isDone (kl K) G o q σ k  (by omega)) gX1_behindhandSet_X1_isDone rfl rfl rfl ⟨rfl, by decide, by decide, rfl⟩ ⟨Nat.le_of_ble_eq_true rfl, Nat.le_of_ble_eq_true rfl⟩ ⟨Nat.zero_le _, Nat.zero_le _⟩ rfl (by decide) (ci := 0) 0 rfl rfl rfl rfl rfl (Nat.le_of_ble_eq_true rfl) dX1_behindhandSet_14 (fun _ => rfl) (fun zu1 zk1 => ?_)
      refine j_top (bI (done σ k)) rfl ?_
      refine j_ifB_ne 17 cx 39 dX1_behindhandSet_17 (by decide) (fun zc1 => ?_) (fun zc1 => ?_)
      · skip
        refine j_iinc 39 cx [(2, .int (nI (k + 1))), (1, .int (setF σ (behF σ) k)), (0, .ref o)] 0 (nI (k + 1)) dX1_behindhandSet_39 rfl (iinc1 k) (by decide) rfl ?_
        refine j_goto 42 cx 4 dX1_behindhandSet_42 (by decide) ?_
        have h9 := ih4 (k + 1)  (by omega)
        rw [show setF σ (behF σ) (k + 1) = setF σ (behF σ) k from by simp [setF, behF, zc1]] at h9
        exact h9
      · skip
        refine j_aload_n 20 cx 2 dX1_behindhandSet_20 rfl ?_
        refine j_get 21 cx 0 0 (T := TX1) (v := .int (σ 0 0)) (fun _ h => List.mem_cons_of_mem _ (List.mem_append_right _ (h))) (List.mem_of_getElem? (i := 2) rfl) (ci := 0) rfl (by decide) rfl rfl rfl dX1_behindhandSet_21 ?_
        refine j_aload_n 24 cx 2 dX1_behindhandSet_24 rfl ?_
        refine j_get 25 cx 0 8 (T := TX1) (v := .ref (q 5)) (fun _ h => List.mem_cons_of_mem _ (List.mem_append_right _ (h))) (List.mem_of_getElem? (i := 3) rfl) (ci := 0) rfl (by decide) rfl rfl rfl dX1_behindhandSet_25 ?_
        refine j_iload_n 28 cx 0 dX1_behindhandSet_28 rfl ?_
        refine j_iald 29 cx 5 k rfl rfl (by omega) (by decide) dX1_behindhandSet_29 ?_
        refine j_icmp_le 30 cx 39 dX1_behindhandSet_30 (by decide) (fun zc2 => ?_) (fun zc2 => ?_)
        · skip
          refine j_iinc 39 cx [(2, .int (nI (k + 1))), (1, .int (setF σ (behF σ) k)), (0, .ref o)] 0 (nI (k + 1)) dX1_behindhandSet_39 rfl (iinc1 k) (by decide) rfl ?_
          refine j_goto 42 cx 4 dX1_behindhandSet_42 (by decide) ?_
          have h9 := ih4 (k + 1)  (by omega)
          rw [show setF σ (behF σ) (k + 1) = setF σ (behF σ) k from by simp [setF, behF, zc1, Int32.not_lt.mpr zc2]] at h9
          exact h9
        · skip
          refine j_iload_n 33 cx 1 dX1_behindhandSet_33 rfl ?_
          refine j_iconst 34 cx 1 dX1_behindhandSet_34 (by decide) ?_
          refine j_iload_n 35 cx 0 dX1_behindhandSet_35 rfl ?_
          refine j_ishl 36 cx dX1_behindhandSet_36 ?_
          refine j_ior 37 cx dX1_behindhandSet_37 ?_
          refine j_istore_n 38 cx [(1, .int ((setF σ (behF σ) k) ||| (1 <<< ((nI k) &&& 31)))), (2, .int (nI k)), (0, .ref o)] dX1_behindhandSet_38 (by decide) rfl ?_
          refine j_iinc 39 cx [(2, .int (nI (k + 1))), (1, .int ((setF σ (behF σ) k) ||| (1 <<< ((nI k) &&& 31)))), (0, .ref o)] 1 (nI (k + 1)) dX1_behindhandSet_39 rfl (iinc1 k) (by decide) rfl ?_
          refine j_goto 42 cx 4 dX1_behindhandSet_42 (by decide) ?_
          have h9 := ih4 (k + 1)  (by omega)
          rw [show setF σ (behF σ) (k + 1) = setF σ (behF σ) k ||| ((1 : Int32) <<< (nI k &&& 31)) from by simp [setF, behF, zc1, Int32.not_le.mp zc2]] at h9
          exact h9
  exact L4 (szN σ) 0 (by omega)
set_option maxRecDepth 100000 in
set_option maxHeartbeats 4000000 in
theorem c_X1_loudest (l : Launch) (G : pG) (o : Nat) (q : Nat → Nat) (σ : Nu) (hI : Inv σ) : KI l G yX1_loudest wsX1_loudest ({ frames := 3, cells := 0, slots := 0, locals := 71 } : Room) [.ref o] (wN G o q σ) (S := Unit) (fun _ => True) (fun u => oI (loud σ)) (fun u => wN G o q σ) := by
  have h8 := hI.sz8
  refine ki_of [(0, .ref o)] (own := RX1) (cc := cX1_loudest) (nL := 6) (by decide +kernel) rfl rfl (Nat.le_of_ble_eq_true rfl) rfl (fun _ => rfl) (fun K cx fin => ?_)
  refine j_aload_n 0 cx 0 dX1_loudest_0 rfl ?_
  refine j_callV_i 1 cx 0 [0, 1, 2, 3, 4, 5, 6] [] (fun _ => wN G o q σ) (c_X1_undone (kl K) G o q σ hI) gX1_loudest_X1_undone rfl rfl rfl ⟨rfl, by decide, by decide, rfl⟩ ⟨Nat.le_of_ble_eq_true rfl, Nat.le_of_ble_eq_true rfl⟩ ⟨Nat.zero_le _, Nat.zero_le _⟩ rfl (by decide) (ci := 0) 0 rfl rfl rfl rfl rfl (Nat.le_of_ble_eq_true rfl) dX1_loudest_1 (fun _ => rfl) (fun zu1 zk1 => ?_)
  refine j_top (nI (undN σ (szN σ))) rfl ?_
  refine j_istore_n 4 cx [(1, .int (nI (undN σ (szN σ)))), (0, .ref o)] dX1_loudest_4 (by decide) rfl ?_
  refine j_iconst 5 cx (-1) dX1_loudest_5 (by decide) ?_
  refine j_istore_n 6 cx [(2, .int ((-1))), (1, .int (nI (undN σ (szN σ)))), (0, .ref o)] dX1_loudest_6 (by decide) rfl ?_
  refine j_iconst 7 cx 0 dX1_loudest_7 (by decide) ?_
  refine j_istore_n 8 cx [(3, .int 0), (2, .int ((-1))), (1, .int (nI (undN σ (szN σ)))), (0, .ref o)] dX1_loudest_8 (by decide) rfl ?_
  refine j_iconst 9 cx 0 dX1_loudest_9 (by decide) ?_
  refine j_istore 10 cx [(4, .int 0), (3, .int 0), (2, .int ((-1))), (1, .int (nI (undN σ (szN σ)))), (0, .ref o)] dX1_loudest_10 (by decide) rfl ?_
  have L12 : ∀ d : Nat, ∀ (k : Nat), (k + d = szN σ) → JJ G K 0 0 (wN G o q σ) [(4, .int (nI k)), (3, .int ((loudS σ k).2)), (2, .int (oI (loudS σ k).1)), (1, .int (nI (undN σ (szN σ)))), (0, .ref o)] 12 [] := by
    intro d
    induction d with
    | zero =>
      intro k hk
      refine j_iload 12 cx 0 dX1_loudest_12 rfl ?_
      refine j_aload_n 14 cx 4 dX1_loudest_14 rfl ?_
      refine j_get 15 cx 0 3 (T := TX1) (v := .int (σ 0 3)) (fun _ h => List.mem_cons_of_mem _ (List.mem_append_right _ (h))) (List.mem_of_getElem? (i := 1) rfl) (ci := 0) rfl (by decide) rfl rfl rfl dX1_loudest_15 ?_
      refine j_top (nI (szN σ)) hI.sz ?_
      refine j_icmp_ge_T 18 cx 67 dX1_loudest_18 (by decide) (nI_le (by omega) (by omega)) ?_
      refine j_iload_n 67 cx 2 dX1_loudest_67 rfl ?_
      exact fin () _ _ _ _ dX1_loudest_68 rfl (by rw [loud, show k = szN σ from by omega]) rfl trivial
    | succ d ih12 =>
      intro k hk
      refine j_iload 12 cx 0 dX1_loudest_12 rfl ?_
      refine j_aload_n 14 cx 4 dX1_loudest_14 rfl ?_
      refine j_get 15 cx 0 3 (T := TX1) (v := .int (σ 0 3)) (fun _ h => List.mem_cons_of_mem _ (List.mem_append_right _ (h))) (List.mem_of_getElem? (i := 1) rfl) (ci := 0) rfl (by decide) rfl rfl rfl dX1_loudest_15 ?_
      refine j_top (nI (szN σ)) hI.sz ?_
      refine j_icmp_ge_F 18 cx 67 dX1_loudest_18 (by decide) (nI_ge (by omega) (by omega)) ?_
      refine j_aload_n 21 cx 4 dX1_loudest_21 rfl ?_
      refine j_get 22 cx 0 9 (T := TX1) (v := .ref (q 6)) (fun _ h => List.mem_cons_of_mem _ (List.mem_append_right _ (h))) (List.mem_of_getElem? (i := 2) rfl) (ci := 0) rfl (by decide) rfl rfl rfl dX1_loudest_22 ?_
      refine j_iload 25 cx 0 dX1_loudest_25 rfl ?_
      refine j_iald 27 cx 6 k rfl rfl (by omega) (by decide) dX1_loudest_27 ?_
      refine j_if_ne 28 cx 61 dX1_loudest_28 (by decide) (fun zc1 => ?_) (fun zc1 => ?_)
      · skip
        refine j_iinc 61 cx [(4, .int (nI (k + 1))), (3, .int ((loudS σ k).2)), (2, .int (oI (loudS σ k).1)), (1, .int (nI (undN σ (szN σ)))), (0, .ref o)] 0 (nI (k + 1)) dX1_loudest_61 rfl (iinc1 k) (by decide) rfl ?_
        refine j_goto 64 cx 12 dX1_loudest_64 (by decide) ?_
        have h9 := ih12 (k + 1)  (by omega)
        rw [loudS_skip (Or.inr zc1)] at h9
        exact h9
      · skip
        refine j_aload_n 31 cx 4 dX1_loudest_31 rfl ?_
        refine j_iload 32 cx 0 dX1_loudest_32 rfl ?_
        refine j_callV_i 34 cx 1 [0, 1, 2, 3, 4, 5, 6] [.int (nI k)] (fun _ => wN G o q σ) (c_X1_isDone (kl K) G o q σ k  (by omega)) gX1_loudest_X1_isDone rfl rfl rfl ⟨rfl, by decide, by decide, rfl⟩ ⟨Nat.le_of_ble_eq_true rfl, Nat.le_of_ble_eq_true rfl⟩ ⟨Nat.zero_le _, Nat.zero_le _⟩ rfl (by decide) (ci := 0) 0 rfl rfl rfl rfl rfl (Nat.le_of_ble_eq_true rfl) dX1_loudest_34 (fun _ => rfl) (fun zu2 zk2 => ?_)
        refine j_top (bI (done σ k)) rfl ?_
        refine j_ifB_ne 37 cx 61 dX1_loudest_37 (by decide) (fun zc2 => ?_) (fun zc2 => ?_)
        · skip
          refine j_iinc 61 cx [(4, .int (nI (k + 1))), (3, .int ((loudS σ k).2)), (2, .int (oI (loudS σ k).1)), (1, .int (nI (undN σ (szN σ)))), (0, .ref o)] 0 (nI (k + 1)) dX1_loudest_61 rfl (iinc1 k) (by decide) rfl ?_
          refine j_goto 64 cx 12 dX1_loudest_64 (by decide) ?_
          have h9 := ih12 (k + 1)  (by omega)
          rw [loudS_skip (Or.inl zc2)] at h9
          exact h9
        · skip
          refine j_aload_n 40 cx 4 dX1_loudest_40 rfl ?_
          refine j_iload 41 cx 0 dX1_loudest_41 rfl ?_
          refine j_iload_n 43 cx 3 dX1_loudest_43 rfl ?_
          refine j_callV_i 44 cx 2 [0, 1, 2, 3, 4, 5, 6] [.int (nI k), .int (nI (undN σ (szN σ)))] (fun _ => wN G o q σ) (c_X1_calls (kl K) G o q σ k hI (by omega)) gX1_loudest_X1_calls rfl rfl rfl ⟨rfl, by decide, by decide, rfl⟩ ⟨Nat.le_of_ble_eq_true rfl, Nat.le_of_ble_eq_true rfl⟩ ⟨Nat.zero_le _, Nat.zero_le _⟩ rfl (by decide) (ci := 0) 0 rfl rfl rfl rfl rfl (Nat.le_of_ble_eq_true rfl) dX1_loudest_44 (fun _ => rfl) (fun zu3 zk3 => ?_)
          refine j_top (callF σ k) rfl ?_
          refine j_istore 47 cx [(5, .int (callF σ k)), (4, .int (nI k)), (3, .int ((loudS σ k).2)), (2, .int (oI (loudS σ k).1)), (1, .int (nI (undN σ (szN σ)))), (0, .ref o)] dX1_loudest_47 (by decide) rfl ?_
          refine j_iload 49 cx 0 dX1_loudest_49 rfl ?_
          refine j_iload_n 51 cx 2 dX1_loudest_51 rfl ?_
          refine j_icmp_le 52 cx 61 dX1_loudest_52 (by decide) (fun zc3 => ?_) (fun zc3 => ?_)
          · skip
            refine j_iinc 61 cx [(4, .int (nI (k + 1))), (5, .int (callF σ k)), (3, .int ((loudS σ k).2)), (2, .int (oI (loudS σ k).1)), (1, .int (nI (undN σ (szN σ)))), (0, .ref o)] 1 (nI (k + 1)) dX1_loudest_61 rfl (iinc1 k) (by decide) rfl ?_
            refine j_goto 64 cx 12 dX1_loudest_64 (by decide) ?_
            refine j_lv [0, 2, 3, 4, 5] rfl ?_
            have h9 := ih12 (k + 1)  (by omega)
            rw [loudS_low zc2 zc1 (Int32.not_lt.mpr zc3)] at h9
            exact h9
          · skip
            refine j_iload 55 cx 0 dX1_loudest_55 rfl ?_
            refine j_istore_n 57 cx [(3, .int (callF σ k)), (5, .int (callF σ k)), (4, .int (nI k)), (2, .int (oI (loudS σ k).1)), (1, .int (nI (undN σ (szN σ)))), (0, .ref o)] dX1_loudest_57 (by decide) rfl ?_
            refine j_iload 58 cx 2 dX1_loudest_58 rfl ?_
            refine j_istore_n 60 cx [(2, .int (nI k)), (3, .int (callF σ k)), (5, .int (callF σ k)), (4, .int (nI k)), (1, .int (nI (undN σ (szN σ)))), (0, .ref o)] dX1_loudest_60 (by decide) rfl ?_
            refine j_iinc 61 cx [(4, .int (nI (k + 1))), (2, .int (nI k)), (3, .int (callF σ k)), (5, .int (callF σ k)), (1, .int (nI (undN σ (szN σ)))), (0, .ref o)] 3 (nI (k + 1)) dX1_loudest_61 rfl (iinc1 k) (by decide) rfl ?_
            refine j_goto 64 cx 12 dX1_loudest_64 (by decide) ?_
            refine j_lv [0, 2, 1, 4, 5] rfl ?_
            have h9 := ih12 (k + 1)  (by omega)
            rw [loudS_loud zc2 zc1 (Int32.not_le.mp zc3)] at h9
            exact h9
  exact L12 (szN σ) 0 (by omega)
