set_option maxRecDepth 100000 in
set_option maxHeartbeats 4000000 in
theorem c_X5_inside (l : Launch) (G : pG) (v lo hi : Int32) : KI l G yX5_inside wsX5_inside ({ frames := 0, cells := 0, slots := 0, locals := 0 } : Room) [.int v, .int lo, .int hi] (([] : va_W)) (S := Unit) (fun _ => True) (fun u => bI (inI v lo hi)) (fun u => ([] : va_W)) := by
  refine ki_of [(0, .int v), (1, .int lo), (2, .int hi)] (own := RX5) (cc := cX5_inside) (nL := 3) (by decide +kernel) rfl rfl (Nat.le_of_ble_eq_true rfl) rfl (fun _ => rfl) (fun K cx fin => ?_)
  refine j_iload_n 0 cx 0 dX5_inside_0 rfl ?_
  refine j_iload_n 1 cx 1 dX5_inside_1 rfl ?_
  refine j_icmp_lt 2 cx 14 dX5_inside_2 (by decide) (fun zc1 => ?_) (fun zc1 => ?_)
  · skip
    refine j_iconst 14 cx 0 dX5_inside_14 (by decide) ?_
    exact fin () _ _ _ _ dX5_inside_15 rfl (by rw [show inI v lo hi = false from decide_eq_false (fun h => absurd zc1 (Int32.not_lt.mpr h.1))]; rfl) rfl trivial
  · skip
    refine j_iload_n 5 cx 0 dX5_inside_5 rfl ?_
    refine j_iload_n 6 cx 2 dX5_inside_6 rfl ?_
    refine j_icmp_gt 7 cx 14 dX5_inside_7 (by decide) (fun zc2 => ?_) (fun zc2 => ?_)
    · skip
      refine j_iconst 14 cx 0 dX5_inside_14 (by decide) ?_
      exact fin () _ _ _ _ dX5_inside_15 rfl (by rw [show inI v lo hi = false from decide_eq_false (fun h => absurd zc2 (Int32.not_lt.mpr h.2))]; rfl) rfl trivial
    · skip
      refine j_iconst 10 cx 1 dX5_inside_10 (by decide) ?_
      refine j_goto 11 cx 15 dX5_inside_11 (by decide) ?_
      exact fin () _ _ _ _ dX5_inside_15 rfl (by rw [show inI v lo hi = true from decide_eq_true ⟨Int32.not_lt.mp zc1, Int32.not_lt.mp zc2⟩]; rfl) rfl trivial
set_option maxRecDepth 100000 in
set_option maxHeartbeats 4000000 in
theorem c_X5_isKind (l : Launch) (G : pG) (v : Int32) : KI l G yX5_isKind wsX5_isKind ({ frames := 1, cells := 0, slots := 0, locals := 22 } : Room) [.int v] (([] : va_W)) (S := Unit) (fun _ => True) (fun u => bI (inI v 0 5)) (fun u => ([] : va_W)) := by
  refine ki_of [(0, .int v)] (own := RX5) (cc := cX5_isKind) (nL := 1) (by decide +kernel) rfl rfl (Nat.le_of_ble_eq_true rfl) rfl (fun _ => rfl) (fun K cx fin => ?_)
  refine j_iload_n 0 cx 0 dX5_isKind_0 rfl ?_
  refine j_iconst 1 cx 0 dX5_isKind_1 (by decide) ?_
  refine j_iconst 2 cx 5 dX5_isKind_2 (by decide) ?_
  refine j_callS_i 3 cx 3 [] [.int v, .int 0, .int 5] (fun _ => ([] : va_W)) (c_X5_inside (kl K) G v 0 5) gX5_isKind_X5_inside rfl rfl rfl ⟨by decide, by decide, rfl⟩ ⟨Nat.le_of_ble_eq_true rfl, Nat.le_of_ble_eq_true rfl⟩ ⟨Nat.zero_le _, Nat.zero_le _⟩ rfl (by decide) rfl rfl (Nat.le_of_ble_eq_true rfl) dX5_isKind_3 (fun _ => rfl) (fun zu1 zk1 => ?_)
  refine j_top (bI (inI v 0 5)) rfl ?_
  exact fin () _ _ _ _ dX5_isKind_6 (bI_nar _) rfl rfl trivial
set_option maxRecDepth 100000 in
set_option maxHeartbeats 4000000 in
theorem c_X5_bit (l : Launch) (G : pG) (b : Bool) : KI l G yX5_bit wsX5_bit ({ frames := 0, cells := 0, slots := 0, locals := 0 } : Room) [.int (bI (b))] (([] : va_W)) (S := Unit) (fun _ => True) (fun u => bI b) (fun u => ([] : va_W)) := by
  refine ki_of [(0, .int (bI (b)))] (own := RX5) (cc := cX5_bit) (nL := 1) (by decide +kernel) rfl rfl (Nat.le_of_ble_eq_true rfl) rfl (fun _ => rfl) (fun K cx fin => ?_)
  refine j_iload_n 0 cx 0 dX5_bit_0 rfl ?_
  refine j_ifB_eq 1 cx 8 dX5_bit_1 (by decide) (fun zc1 => ?_) (fun zc1 => ?_)
  · skip
    refine j_iconst 8 cx 0 dX5_bit_8 (by decide) ?_
    exact fin () _ _ _ _ dX5_bit_9 rfl (by rw [zc1]; rfl) rfl trivial
  · skip
    refine j_iconst 4 cx 1 dX5_bit_4 (by decide) ?_
    refine j_goto 5 cx 9 dX5_bit_5 (by decide) ?_
    exact fin () _ _ _ _ dX5_bit_9 rfl (by rw [zc1]; rfl) rfl trivial
set_option maxRecDepth 100000 in
set_option maxHeartbeats 4000000 in
theorem c_X5_finding (l : Launch) (G : pG) (o : Nat) (ax : Nat → Nat) (kp : Bool) (fo : Nat → Int32) (j : Nat) (hj : j < 7) : KI l G yX5_finding wsX5_finding ({ frames := 0, cells := 0, slots := 0, locals := 0 } : Room) [.ref o, .int (fcode j)] (wXO o ax kp ++ [((ax 7), .inl (gI G, 7, .inl fo))]) (S := Unit) (fun _ => True) (fun u => fcode j) (fun u => wXO o ax kp ++ [((ax 7), .inl (gI G, 7, .inl (upd fo j (fo j + 1))))]) := by
  refine ki_of [(0, .ref o), (1, .int (fcode j))] (own := RX5) (cc := cX5_finding) (nL := 3) (by decide +kernel) rfl rfl (Nat.le_of_ble_eq_true rfl) rfl (fun _ => rfl) (fun K cx fin => ?_)
  refine j_ldc 0 cx (v := -1000000001) (List.mem_of_getElem? (i := 1) rfl) dX5_finding_0 ?_
  refine j_iload_n 2 cx 1 dX5_finding_2 rfl ?_
  refine j_isub 3 cx dX5_finding_3 ?_
  refine j_top (nI j) (fc_sub j hj) ?_
  refine j_istore_n 4 cx [(2, .int (nI j)), (0, .ref o), (1, .int (fcode j))] dX5_finding_4 (by decide) rfl ?_
  refine j_iload_n 5 cx 0 dX5_finding_5 rfl ?_
  refine j_if_lt_F 6 cx 25 dX5_finding_6 (by decide) (nI_pos (by omega)) ?_
  refine j_iload_n 9 cx 0 dX5_finding_9 rfl ?_
  refine j_bipush 10 cx 7 dX5_finding_10 (by decide) ?_
  refine j_icmp_ge_F 12 cx 25 dX5_finding_12 (by decide) (nI_ge (b := 7) (by omega) (by omega)) ?_
  refine j_aload_n 15 cx 1 dX5_finding_15 rfl ?_
  refine j_get 16 cx 0 7 (T := TX5) (v := .ref ((ax 7))) (fun _ h => List.mem_cons_of_mem _ (List.mem_append_right _ (h))) (List.mem_of_getElem? (i := 2) rfl) (ci := 4) rfl (by decide) rfl rfl rfl dX5_finding_16 ?_
  refine j_iload_n 19 cx 0 dX5_finding_19 rfl ?_
  refine j_dup2 20 cx dX5_finding_20 rfl rfl ?_
  refine j_iald 21 cx 1 j rfl rfl (by omega) (by decide) dX5_finding_21 ?_
  refine j_iconst 22 cx 1 dX5_finding_22 (by decide) ?_
  refine j_iadd 23 cx dX5_finding_23 ?_
  refine j_iast 24 cx 1 j (wXO o ax kp ++ [((ax 7), .inl (gI G, 7, .inl (upd fo j ((fo j) + 1))))]) rfl rfl (by omega) (by decide) rfl dX5_finding_24 ?_
  refine j_iload_n 25 cx 2 dX5_finding_25 rfl ?_
  exact fin () _ _ _ _ dX5_finding_26 rfl rfl rfl trivial
set_option maxRecDepth 100000 in
set_option maxHeartbeats 4000000 in
theorem c_X5_hasPart (l : Launch) (G : pG) (o : Nat) (ax : Nat → Nat) (kp : Bool) (qh : Nat → Nat) (σ : Nu) (p : Int32) (hI : Inv σ) : KI l G yX5_hasPart wsX5_hasPart ({ frames := 1, cells := 0, slots := 0, locals := 22 } : Room) [.ref o, .int p] (wXO o ax kp ++ wN G (ax 1) qh σ) (S := Unit) (fun _ => True) (fun u => bI (inI p 0 (nI (szN σ) - 1))) (fun u => wXO o ax kp ++ wN G (ax 1) qh σ) := by
  refine ki_of [(0, .ref o), (1, .int p)] (own := RX5) (cc := cX5_hasPart) (nL := 2) (by decide +kernel) rfl rfl (Nat.le_of_ble_eq_true rfl) rfl (fun _ => rfl) (fun K cx fin => ?_)
  refine j_iload_n 0 cx 1 dX5_hasPart_0 rfl ?_
  refine j_iconst 1 cx 0 dX5_hasPart_1 (by decide) ?_
  refine j_aload_n 2 cx 0 dX5_hasPart_2 rfl ?_
  refine j_get 3 cx 0 0 (T := TX5) (v := .ref ((ax 1))) (fun _ h => List.mem_cons_of_mem _ (List.mem_append_left _ (List.mem_append_right _ (h)))) (List.mem_of_getElem? (i := 1) rfl) (ci := 4) rfl (by decide) rfl rfl rfl dX5_hasPart_3 ?_
  refine j_get 6 cx 1 3 (T := TX1) (v := .int (σ 0 3)) (fun _ h => List.mem_cons_of_mem _ (List.mem_append_right _ (h))) (List.mem_of_getElem? (i := 2) rfl) (ci := 0) rfl (by decide) rfl rfl rfl dX5_hasPart_6 ?_
  refine j_top (nI (szN σ)) hI.sz ?_
  refine j_iconst 9 cx 1 dX5_hasPart_9 (by decide) ?_
  refine j_isub 10 cx dX5_hasPart_10 ?_
  refine j_callS_i 11 cx 3 [] [.int p, .int 0, .int ((nI (szN σ)) - 1)] (fun _ => wXO o ax kp ++ wN G (ax 1) qh σ) (c_X5_inside (kl K) G p 0 ((nI (szN σ)) - 1)) gX5_hasPart_X5_inside rfl rfl rfl ⟨by decide, by decide, rfl⟩ ⟨Nat.le_of_ble_eq_true rfl, Nat.le_of_ble_eq_true rfl⟩ ⟨Nat.zero_le _, Nat.zero_le _⟩ rfl (by decide) rfl rfl (Nat.le_of_ble_eq_true rfl) dX5_hasPart_11 (fun _ => rfl) (fun zu1 zk1 => ?_)
  refine j_top (bI (inI p 0 ((nI (szN σ)) - 1))) rfl ?_
  exact fin () _ _ _ _ dX5_hasPart_14 (bI_nar _) rfl rfl trivial
set_option maxRecDepth 100000 in
set_option maxHeartbeats 4000000 in
theorem c_X5_rehearsal (l : Launch) (G : pG) (o : Nat) (ax : Nat → Nat) (kp : Bool) (qh qt : Nat → Nat) (σ τ : Nu) : KQ l G yX5_rehearsal wsX5_rehearsal ({ frames := 2, cells := 0, slots := 0, locals := 47 } : Room) [.ref o] (wXO o ax kp ++ (wN G (ax 1) qh σ ++ wN G (ax 2) qt τ)) (S := Unit) (fun _ => True) (fun u => some (ax 2)) (fun u => wXO o ax kp ++ (wN G (ax 1) qh σ ++ wN G (ax 2) qt σ)) := by
  refine kq_of [(0, .ref o)] (own := RX5) (cc := cX5_rehearsal) (nL := 1) (by decide +kernel) rfl rfl (Nat.le_of_ble_eq_true rfl) rfl (Or.inl ⟨_, rfl⟩) (fun _ => rfl) (fun K cx fin => ?_)
  refine j_aload_n 0 cx 0 dX5_rehearsal_0 rfl ?_
  refine j_get 1 cx 0 1 (T := TX5) (v := .ref ((ax 2))) (fun _ h => List.mem_cons_of_mem _ (List.mem_append_left _ (List.mem_append_right _ (h)))) (List.mem_of_getElem? (i := 1) rfl) (ci := 4) rfl (by decide) rfl rfl rfl dX5_rehearsal_1 ?_
  refine j_aload_n 4 cx 0 dX5_rehearsal_4 rfl ?_
  refine j_get 5 cx 0 0 (T := TX5) (v := .ref ((ax 1))) (fun _ h => List.mem_cons_of_mem _ (List.mem_append_left _ (List.mem_append_right _ (h)))) (List.mem_of_getElem? (i := 2) rfl) (ci := 4) rfl (by decide) rfl rfl rfl dX5_rehearsal_5 ?_
  refine j_callV_v 8 cx 1 [8, 9, 10, 11, 12, 13, 14, 1, 2, 3, 4, 5, 6, 7] [.ref ((ax 1))] (fun _ => wXO o ax kp ++ (wN G (ax 1) qh σ ++ wN G (ax 2) qt σ)) (c_X1_become (kl K) G (ax 2) qt τ (ax 1) qh σ) gX5_rehearsal_X1_become rfl rfl rfl ⟨rfl, by decide, by decide, rfl⟩ ⟨Nat.le_of_ble_eq_true rfl, Nat.le_of_ble_eq_true rfl⟩ ⟨Nat.zero_le _, Nat.zero_le _⟩ rfl (by decide) (ci := 0) 0 rfl rfl rfl rfl rfl (Nat.le_of_ble_eq_true rfl) dX5_rehearsal_8 (fun _ => rfl) (fun zu1 zk1 => ?_)
  refine j_aload_n 11 cx 0 dX5_rehearsal_11 rfl ?_
  refine j_get 12 cx 0 1 (T := TX5) (v := .ref ((ax 2))) (fun _ h => List.mem_cons_of_mem _ (List.mem_append_left _ (List.mem_append_right _ (h)))) (List.mem_of_getElem? (i := 1) rfl) (ci := 4) rfl (by decide) rfl rfl rfl dX5_rehearsal_12 ?_
  exact fin () _ _ _ _ dX5_rehearsal_15 rfl rfl trivial
set_option maxRecDepth 100000 in
set_option maxHeartbeats 4000000 in
theorem c_X5_exchange_t (l : Launch) (G : pG) (o : Nat) (ax : Nat → Nat) (kp : Bool) (fo : Nat → Int32) (r : Nat) (f : Nat → Int32) (p : Nat) (v lo hi : Int32) (hp : p < 8) (hb : inI v lo hi = true) : KI l G yX5_exchange wsX5_exchange ({ frames := 1, cells := 0, slots := 0, locals := 22 } : Room) [.ref o, .ref r, .int (nI p), .int v, .int lo, .int hi] (wXO o ax kp ++ ([((ax 7), .inl (gI G, 7, .inl fo))] ++ [(r, .inl (gI G, 8, .inl f))])) (S := Unit) (fun _ => True) (fun u => f p) (fun u => wXO o ax kp ++ ([((ax 7), .inl (gI G, 7, .inl fo))] ++ [(r, .inl (gI G, 8, .inl (upd f p v)))])) := by
  refine ki_of [(0, .ref o), (1, .ref r), (2, .int (nI p)), (3, .int v), (4, .int lo), (5, .int hi)] (own := RX5) (cc := cX5_exchange) (nL := 7) (by decide +kernel) rfl rfl (Nat.le_of_ble_eq_true rfl) rfl (fun _ => rfl) (fun K cx fin => ?_)
  refine j_iload_n 0 cx 3 dX5_exchange_0 rfl ?_
  refine j_iload 1 cx 4 dX5_exchange_1 rfl ?_
  refine j_iload 3 cx 5 dX5_exchange_3 rfl ?_
  refine j_callS_i 5 cx 3 [] [.int v, .int lo, .int hi] (fun _ => wXO o ax kp ++ ([((ax 7), .inl (gI G, 7, .inl fo))] ++ [(r, .inl (gI G, 8, .inl f))])) (c_X5_inside (kl K) G v lo hi) gX5_exchange_X5_inside rfl rfl rfl ⟨by decide, by decide, rfl⟩ ⟨Nat.le_of_ble_eq_true rfl, Nat.le_of_ble_eq_true rfl⟩ ⟨Nat.zero_le _, Nat.zero_le _⟩ rfl (by decide) rfl rfl (Nat.le_of_ble_eq_true rfl) dX5_exchange_5 (fun _ => rfl) (fun zu1 zk1 => ?_)
  refine j_top (bI (inI v lo hi)) rfl ?_
  refine j_if_eq_F 8 cx 23 dX5_exchange_8 (by decide) (by rw [hb]; decide) ?_
  refine j_iload_n 11 cx 2 dX5_exchange_11 rfl ?_
  refine j_iconst 12 cx 0 dX5_exchange_12 (by decide) ?_
  refine j_aload_n 13 cx 1 dX5_exchange_13 rfl ?_
  refine j_alenI 14 cx 2 8 rfl rfl dX5_exchange_14 ?_
  refine j_iconst 15 cx 1 dX5_exchange_15 (by decide) ?_
  refine j_isub 16 cx dX5_exchange_16 ?_
  refine j_callS_i 17 cx 3 [] [.int (nI p), .int 0, .int (8 - 1)] (fun _ => wXO o ax kp ++ ([((ax 7), .inl (gI G, 7, .inl fo))] ++ [(r, .inl (gI G, 8, .inl f))])) (c_X5_inside (kl K) G (nI p) 0 (8 - 1)) gX5_exchange_X5_inside rfl rfl rfl ⟨by decide, by decide, rfl⟩ ⟨Nat.le_of_ble_eq_true rfl, Nat.le_of_ble_eq_true rfl⟩ ⟨Nat.zero_le _, Nat.zero_le _⟩ rfl (by decide) rfl rfl (Nat.le_of_ble_eq_true rfl) dX5_exchange_17 (fun _ => rfl) (fun zu2 zk2 => ?_)
  refine j_top (bI (inI (nI p) 0 (8 - 1))) rfl ?_
  refine j_if_ne_T 20 cx 30 dX5_exchange_20 (by decide) (by rw [show inI (nI p) 0 (8 - 1) = true from decide_eq_true ⟨nI_pos' (by omega), nI_le (b := 7) (by omega) (by omega)⟩]; decide) ?_
  refine j_aload_n 30 cx 1 dX5_exchange_30 rfl ?_
  refine j_iload_n 31 cx 2 dX5_exchange_31 rfl ?_
  refine j_iald 32 cx 2 p rfl rfl (by omega) (by decide) dX5_exchange_32 ?_
  refine j_istore 33 cx [(6, .int (f p)), (0, .ref o), (1, .ref r), (2, .int (nI p)), (3, .int v), (4, .int lo), (5, .int hi)] dX5_exchange_33 (by decide) rfl ?_
  refine j_aload_n 35 cx 2 dX5_exchange_35 rfl ?_
  refine j_iload_n 36 cx 3 dX5_exchange_36 rfl ?_
  refine j_iload_n 37 cx 4 dX5_exchange_37 rfl ?_
  refine j_iast 38 cx 2 p (wXO o ax kp ++ ([((ax 7), .inl (gI G, 7, .inl fo))] ++ [(r, .inl (gI G, 8, .inl (upd f p v)))])) rfl rfl (by omega) (by decide) rfl dX5_exchange_38 ?_
  refine j_iload 39 cx 0 dX5_exchange_39 rfl ?_
  exact fin () _ _ _ _ dX5_exchange_41 rfl rfl rfl trivial
set_option maxRecDepth 100000 in
set_option maxHeartbeats 4000000 in
theorem c_X5_exchange_f (l : Launch) (G : pG) (o : Nat) (ax : Nat → Nat) (kp : Bool) (fo : Nat → Int32) (r : Nat) (f : Nat → Int32) (p : Nat) (v lo hi : Int32) (hp : p < 8) (hb : inI v lo hi = false) : KI l G yX5_exchange wsX5_exchange ({ frames := 1, cells := 0, slots := 0, locals := 22 } : Room) [.ref o, .ref r, .int (nI p), .int v, .int lo, .int hi] (wXO o ax kp ++ ([((ax 7), .inl (gI G, 7, .inl fo))] ++ [(r, .inl (gI G, 8, .inl f))])) (S := Unit) (fun _ => True) (fun u => fcode 0) (fun u => wXO o ax kp ++ ([((ax 7), .inl (gI G, 7, .inl (upd fo 0 (fo 0 + 1))))] ++ [(r, .inl (gI G, 8, .inl f))])) := by
  refine ki_of [(0, .ref o), (1, .ref r), (2, .int (nI p)), (3, .int v), (4, .int lo), (5, .int hi)] (own := RX5) (cc := cX5_exchange) (nL := 7) (by decide +kernel) rfl rfl (Nat.le_of_ble_eq_true rfl) rfl (fun _ => rfl) (fun K cx fin => ?_)
  refine j_iload_n 0 cx 3 dX5_exchange_0 rfl ?_
  refine j_iload 1 cx 4 dX5_exchange_1 rfl ?_
  refine j_iload 3 cx 5 dX5_exchange_3 rfl ?_
  refine j_callS_i 5 cx 3 [] [.int v, .int lo, .int hi] (fun _ => wXO o ax kp ++ ([((ax 7), .inl (gI G, 7, .inl fo))] ++ [(r, .inl (gI G, 8, .inl f))])) (c_X5_inside (kl K) G v lo hi) gX5_exchange_X5_inside rfl rfl rfl ⟨by decide, by decide, rfl⟩ ⟨Nat.le_of_ble_eq_true rfl, Nat.le_of_ble_eq_true rfl⟩ ⟨Nat.zero_le _, Nat.zero_le _⟩ rfl (by decide) rfl rfl (Nat.le_of_ble_eq_true rfl) dX5_exchange_5 (fun _ => rfl) (fun zu1 zk1 => ?_)
  refine j_top (bI (inI v lo hi)) rfl ?_
  refine j_if_eq_T 8 cx 23 dX5_exchange_8 (by decide) (by rw [hb]; rfl) ?_
  refine j_aload_n 23 cx 0 dX5_exchange_23 rfl ?_
  refine j_ldc 24 cx (v := -1000000001) (List.mem_of_getElem? (i := 1) rfl) dX5_exchange_24 ?_
  refine j_callV_i 26 cx 1 [0, 1] [.int (fcode 0)] (fun _ => wXO o ax kp ++ ([((ax 7), .inl (gI G, 7, .inl (upd fo 0 (fo 0 + 1))))] ++ [(r, .inl (gI G, 8, .inl f))])) (c_X5_finding (kl K) G o ax kp fo 0 (by decide)) gX5_exchange_X5_finding rfl rfl rfl ⟨rfl, by decide, by decide, rfl⟩ ⟨Nat.le_of_ble_eq_true rfl, Nat.le_of_ble_eq_true rfl⟩ ⟨Nat.zero_le _, Nat.zero_le _⟩ rfl (by decide) (ci := 4) 0 rfl rfl rfl rfl rfl (Nat.le_of_ble_eq_true rfl) dX5_exchange_26 (fun _ => rfl) (fun zu2 zk2 => ?_)
  refine j_top (fcode 0) rfl ?_
  exact fin () _ _ _ _ dX5_exchange_29 rfl rfl rfl trivial
set_option maxRecDepth 100000 in
set_option maxHeartbeats 4000000 in
theorem c_X5_daysOrNone (l : Launch) (G : pG) (o : Nat) (ax : Nat → Nat) (kp : Bool) (fo : Nat → Int32) (m t : Nat) (hm : m < 1000) : KI l G yX5_daysOrNone wsX5_daysOrNone ({ frames := 1, cells := 0, slots := 0, locals := 22 } : Room) [.ref o, .int (tR m t)] (wXO o ax kp ++ [((ax 7), .inl (gI G, 7, .inl fo))]) (S := Unit) (fun _ => True) (fun u => dN m t) (fun u => wXO o ax kp ++ [((ax 7), .inl (gI G, 7, .inl (dF m t fo)))]) := by
  refine ki_of [(0, .ref o), (1, .int (tR m t))] (own := RX5) (cc := cX5_daysOrNone) (nL := 2) (by decide +kernel) rfl rfl (Nat.le_of_ble_eq_true rfl) rfl (fun _ => rfl) (fun K cx fin => ?_)
  refine j_iload_n 0 cx 1 dX5_daysOrNone_0 rfl ?_
  refine j_ldc 1 cx (v := 100000) (List.mem_of_getElem? (i := 1) rfl) dX5_daysOrNone_1 ?_
  refine j_icmp_ne 3 cx 15 dX5_daysOrNone_3 (by decide) (fun zc1 => ?_) (fun zc1 => ?_)
  · skip
    refine j_iload_n 15 cx 1 dX5_daysOrNone_15 rfl ?_
    exact fin () _ _ _ _ dX5_daysOrNone_16 rfl (don_k zc1) (congrArg (fun zf : Nat → Int32 => wXO o ax kp ++ [((ax 7), .inl (gI G, 7, .inl zf))]) (don_f fo zc1)) trivial
  · skip
    refine j_aload_n 6 cx 0 dX5_daysOrNone_6 rfl ?_
    refine j_ldc 7 cx (v := -1000000004) (List.mem_of_getElem? (i := 2) rfl) dX5_daysOrNone_7 ?_
    refine j_callV_i 9 cx 1 [0, 1] [.int (fcode 3)] (fun _ => wXO o ax kp ++ [((ax 7), .inl (gI G, 7, .inl (upd fo 3 (fo 3 + 1))))]) (c_X5_finding (kl K) G o ax kp fo 3 (by decide)) gX5_daysOrNone_X5_finding rfl rfl rfl ⟨rfl, by decide, by decide, rfl⟩ ⟨Nat.le_of_ble_eq_true rfl, Nat.le_of_ble_eq_true rfl⟩ ⟨Nat.zero_le _, Nat.zero_le _⟩ rfl (by decide) (ci := 4) 0 rfl rfl rfl rfl rfl (Nat.le_of_ble_eq_true rfl) dX5_daysOrNone_9 (fun _ => rfl) (fun zu1 zk1 => ?_)
    refine j_top (fcode 3) rfl ?_
    refine j_goto 12 cx 16 dX5_daysOrNone_12 (by decide) ?_
    exact fin () _ _ _ _ dX5_daysOrNone_16 rfl (don_n hm zc1) (congrArg (fun zf : Nat → Int32 => wXO o ax kp ++ [((ax 7), .inl (gI G, 7, .inl zf))]) (don_g fo hm zc1)) trivial
set_option maxRecDepth 100000 in
set_option maxHeartbeats 4000000 in
theorem c_X5_weary (l : Launch) (G : pG) (o : Nat) (ax : Nat → Nat) (qh qt qk : Nat → Nat) (S : St) (τ : Nu) (hI : Inv (sN S)) (hD : dyN (sN S) ≤ 9999) (v : Int32) : KI l G yX5_weary wsX5_weary ({ frames := 1, cells := 0, slots := 0, locals := 22 } : Room) [.ref o, .int v] (wXO o ax (sP S) ++ ([((ax 7), .inl (gI G, 7, .inl (sF S)))] ++ wN G (ax 1) qh (sN S))) (S := Unit) (fun _ => True) (fun u => (sp_weary v S).1) (fun u => wXO o ax (sP S) ++ ([((ax 7), .inl (gI G, 7, .inl (sF (sp_weary v S).2)))] ++ wN G (ax 1) qh (sN (sp_weary v S).2))) := by
  refine ki_of [(0, .ref o), (1, .int v)] (own := RX5) (cc := cX5_weary) (nL := 3) (by decide +kernel) rfl rfl (Nat.le_of_ble_eq_true rfl) rfl (fun _ => rfl) (fun K cx fin => ?_)
  refine j_iload_n 0 cx 1 dX5_weary_0 rfl ?_
  refine j_iconst 1 cx 0 dX5_weary_1 (by decide) ?_
  refine j_bipush 2 cx 99 dX5_weary_2 (by decide) ?_
  refine j_callS_i 4 cx 3 [] [.int v, .int 0, .int 99] (fun _ => wXO o ax (sP S) ++ ([((ax 7), .inl (gI G, 7, .inl (sF S)))] ++ wN G (ax 1) qh (sN S))) (c_X5_inside (kl K) G v 0 99) gX5_weary_X5_inside rfl rfl rfl ⟨by decide, by decide, rfl⟩ ⟨Nat.le_of_ble_eq_true rfl, Nat.le_of_ble_eq_true rfl⟩ ⟨Nat.zero_le _, Nat.zero_le _⟩ rfl (by decide) rfl rfl (Nat.le_of_ble_eq_true rfl) dX5_weary_4 (fun _ => rfl) (fun zu1 zk1 => ?_)
  refine j_top (bI (inI v 0 99)) rfl ?_
  refine j_ifB_ne 7 cx 17 dX5_weary_7 (by decide) (fun zc1 => ?_) (fun zc1 => ?_)
  · skip
    refine j_aload_n 17 cx 0 dX5_weary_17 rfl ?_
    refine j_get 18 cx 0 0 (T := TX5) (v := .ref ((ax 1))) (fun _ h => List.mem_cons_of_mem _ (List.mem_append_left _ (List.mem_append_right _ (h)))) (List.mem_of_getElem? (i := 2) rfl) (ci := 4) rfl (by decide) rfl rfl rfl dX5_weary_18 ?_
    refine j_get 21 cx 2 1 (T := TX1) (v := .int ((sN S) 0 1)) (fun _ h => List.mem_cons_of_mem _ (List.mem_append_right _ (h))) (List.mem_of_getElem? (i := 3) rfl) (ci := 0) rfl (by decide) rfl rfl rfl dX5_weary_21 ?_
    refine j_istore_n 24 cx [(2, .int ((sN S) 0 1)), (0, .ref o), (1, .int v)] dX5_weary_24 (by decide) rfl ?_
    refine j_aload_n 25 cx 1 dX5_weary_25 rfl ?_
    refine j_get 26 cx 0 0 (T := TX5) (v := .ref ((ax 1))) (fun _ h => List.mem_cons_of_mem _ (List.mem_append_left _ (List.mem_append_right _ (h)))) (List.mem_of_getElem? (i := 2) rfl) (ci := 4) rfl (by decide) rfl rfl rfl dX5_weary_26 ?_
    refine j_iload_n 29 cx 2 dX5_weary_29 rfl ?_
    refine j_put 30 cx 2 1 (wXO o ax (sP S) ++ ([((ax 7), .inl (gI G, 7, .inl (sF S)))] ++ wN G (ax 1) qh (up2 (sN S) 0 1 v))) (T := TX1) (ty0 := tyX1) (fun _ h => List.mem_cons_of_mem _ (List.mem_append_right _ (h))) (List.mem_of_getElem? (i := 3) rfl) (ci := 0) rfl (by decide) rfl tyX1_ok nmX1 rfl rfl rfl rfl (Nat.le_of_ble_eq_true rfl) rfl dX5_weary_30 ?_
    refine j_iload_n 33 cx 0 dX5_weary_33 rfl ?_
    have ze : (sp_weary v S) = ((sN S) 0 1, stN S (up2 (sN S) 0 1 v)) := by unfold sp_weary; simp [isP_eq hI, zc1]
    exact fin () _ _ _ _ dX5_weary_34 rfl (by rw [ze] <;> rfl) (by rw [ze] <;> rfl) trivial
  · skip
    refine j_aload_n 10 cx 0 dX5_weary_10 rfl ?_
    refine j_ldc 11 cx (v := -1000000001) (List.mem_of_getElem? (i := 1) rfl) dX5_weary_11 ?_
    refine j_callV_i 13 cx 1 [0, 1] [.int (fcode 0)] (fun _ => wXO o ax (sP S) ++ ([((ax 7), .inl (gI G, 7, .inl (upd (sF S) 0 ((sF S) 0 + 1))))] ++ wN G (ax 1) qh (sN S))) (c_X5_finding (kl K) G o ax (sP S) (sF S) 0 (by decide)) gX5_weary_X5_finding rfl rfl rfl ⟨rfl, by decide, by decide, rfl⟩ ⟨Nat.le_of_ble_eq_true rfl, Nat.le_of_ble_eq_true rfl⟩ ⟨Nat.zero_le _, Nat.zero_le _⟩ rfl (by decide) (ci := 4) 0 rfl rfl rfl rfl rfl (Nat.le_of_ble_eq_true rfl) dX5_weary_13 (fun _ => rfl) (fun zu2 zk2 => ?_)
    refine j_top (fcode 0) rfl ?_
    have ze : (sp_weary v S) = bad S 0 := by unfold sp_weary; simp [isP_eq hI, zc1]
    exact fin () _ _ _ _ dX5_weary_16 rfl (by rw [ze] <;> rfl) (by rw [ze] <;> rfl) trivial
set_option maxRecDepth 100000 in
set_option maxHeartbeats 4000000 in
theorem c_X5_free (l : Launch) (G : pG) (o : Nat) (ax : Nat → Nat) (qh qt qk : Nat → Nat) (S : St) (τ : Nu) (hI : Inv (sN S)) (hD : dyN (sN S) ≤ 9999) (pl v : Int32) : KI l G yX5_free wsX5_free ({ frames := 1, cells := 0, slots := 0, locals := 22 } : Room) [.ref o, .int pl, .int v] (wXO o ax (sP S) ++ ([((ax 7), .inl (gI G, 7, .inl (sF S)))] ++ wN G (ax 1) qh (sN S))) (S := Unit) (fun _ => True) (fun u => (sp_free pl v S).1) (fun u => wXO o ax (sP S) ++ ([((ax 7), .inl (gI G, 7, .inl (sF (sp_free pl v S).2)))] ++ wN G (ax 1) qh (sN (sp_free pl v S).2))) := by
  refine ki_of [(0, .ref o), (1, .int pl), (2, .int v)] (own := RX5) (cc := cX5_free) (nL := 4) (by decide +kernel) rfl rfl (Nat.le_of_ble_eq_true rfl) rfl (fun _ => rfl) (fun K cx fin => ?_)
  refine j_iload_n 0 cx 1 dX5_free_0 rfl ?_
  refine j_iconst 1 cx 0 dX5_free_1 (by decide) ?_
  refine j_bipush 2 cx 6 dX5_free_2 (by decide) ?_
  refine j_callS_i 4 cx 3 [] [.int pl, .int 0, .int 6] (fun _ => wXO o ax (sP S) ++ ([((ax 7), .inl (gI G, 7, .inl (sF S)))] ++ wN G (ax 1) qh (sN S))) (c_X5_inside (kl K) G pl 0 6) gX5_free_X5_inside rfl rfl rfl ⟨by decide, by decide, rfl⟩ ⟨Nat.le_of_ble_eq_true rfl, Nat.le_of_ble_eq_true rfl⟩ ⟨Nat.zero_le _, Nat.zero_le _⟩ rfl (by decide) rfl rfl (Nat.le_of_ble_eq_true rfl) dX5_free_4 (fun _ => rfl) (fun zu1 zk1 => ?_)
  refine j_top (bI (inI pl 0 6)) rfl ?_
  refine j_ifB_eq 7 cx 19 dX5_free_7 (by decide) (fun zc1 => ?_) (fun zc1 => ?_)
  · skip
    refine j_aload_n 19 cx 0 dX5_free_19 rfl ?_
    refine j_ldc 20 cx (v := -1000000001) (List.mem_of_getElem? (i := 1) rfl) dX5_free_20 ?_
    refine j_callV_i 22 cx 1 [0, 1] [.int (fcode 0)] (fun _ => wXO o ax (sP S) ++ ([((ax 7), .inl (gI G, 7, .inl (upd (sF S) 0 ((sF S) 0 + 1))))] ++ wN G (ax 1) qh (sN S))) (c_X5_finding (kl K) G o ax (sP S) (sF S) 0 (by decide)) gX5_free_X5_finding rfl rfl rfl ⟨rfl, by decide, by decide, rfl⟩ ⟨Nat.le_of_ble_eq_true rfl, Nat.le_of_ble_eq_true rfl⟩ ⟨Nat.zero_le _, Nat.zero_le _⟩ rfl (by decide) (ci := 4) 0 rfl rfl rfl rfl rfl (Nat.le_of_ble_eq_true rfl) dX5_free_22 (fun _ => rfl) (fun zu2 zk2 => ?_)
    refine j_top (fcode 0) rfl ?_
    have ze : (sp_free pl v S) = bad S 0 := by unfold sp_free; simp [zc1]
    exact fin () _ _ _ _ dX5_free_25 rfl (by rw [ze] <;> rfl) (by rw [ze] <;> rfl) trivial
  · skip
    have hk := zc1
    refine j_iload_n 10 cx 2 dX5_free_10 rfl ?_
    refine j_iconst 11 cx 0 dX5_free_11 (by decide) ?_
    refine j_iconst 12 cx 1 dX5_free_12 (by decide) ?_
    refine j_callS_i 13 cx 3 [] [.int v, .int 0, .int 1] (fun _ => wXO o ax (sP S) ++ ([((ax 7), .inl (gI G, 7, .inl (sF S)))] ++ wN G (ax 1) qh (sN S))) (c_X5_inside (kl K) G v 0 1) gX5_free_X5_inside rfl rfl rfl ⟨by decide, by decide, rfl⟩ ⟨Nat.le_of_ble_eq_true rfl, Nat.le_of_ble_eq_true rfl⟩ ⟨Nat.zero_le _, Nat.zero_le _⟩ rfl (by decide) rfl rfl (Nat.le_of_ble_eq_true rfl) dX5_free_13 (fun _ => rfl) (fun zu3 zk3 => ?_)
    refine j_top (bI (inI v 0 1)) rfl ?_
    refine j_ifB_ne 16 cx 26 dX5_free_16 (by decide) (fun zc2 => ?_) (fun zc2 => ?_)
    · skip
      obtain ⟨k, hk6, rfl⟩ := in_k (M := 6) (m := 6) rfl hk
      have hkc : (nI k).toNatClampNeg = k := nI_clamp (by omega)
      refine j_aload_n 26 cx 0 dX5_free_26 rfl ?_
      refine j_get 27 cx 0 0 (T := TX5) (v := .ref ((ax 1))) (fun _ h => List.mem_cons_of_mem _ (List.mem_append_left _ (List.mem_append_right _ (h)))) (List.mem_of_getElem? (i := 2) rfl) (ci := 4) rfl (by decide) rfl rfl rfl dX5_free_27 ?_
      refine j_get 30 cx 2 4 (T := TX1) (v := .ref (qh 1)) (fun _ h => List.mem_cons_of_mem _ (List.mem_append_right _ (h))) (List.mem_of_getElem? (i := 3) rfl) (ci := 0) rfl (by decide) rfl rfl rfl dX5_free_30 ?_
      refine j_iload_n 33 cx 1 dX5_free_33 rfl ?_
      refine j_iald 34 cx 3 k rfl rfl (by omega) (by decide) dX5_free_34 ?_
      refine j_istore_n 35 cx [(3, .int ((sN S) 1 k)), (0, .ref o), (1, .int (nI k)), (2, .int v)] dX5_free_35 (by decide) rfl ?_
      refine j_aload_n 36 cx 1 dX5_free_36 rfl ?_
      refine j_get 37 cx 0 0 (T := TX5) (v := .ref ((ax 1))) (fun _ h => List.mem_cons_of_mem _ (List.mem_append_left _ (List.mem_append_right _ (h)))) (List.mem_of_getElem? (i := 2) rfl) (ci := 4) rfl (by decide) rfl rfl rfl dX5_free_37 ?_
      refine j_get 40 cx 2 4 (T := TX1) (v := .ref (qh 1)) (fun _ h => List.mem_cons_of_mem _ (List.mem_append_right _ (h))) (List.mem_of_getElem? (i := 3) rfl) (ci := 0) rfl (by decide) rfl rfl rfl dX5_free_40 ?_
      refine j_iload_n 43 cx 2 dX5_free_43 rfl ?_
      refine j_iload_n 44 cx 3 dX5_free_44 rfl ?_
      refine j_iast 45 cx 3 k (wXO o ax (sP S) ++ ([((ax 7), .inl (gI G, 7, .inl (sF S)))] ++ wN G (ax 1) qh (up2 (sN S) 1 k v))) rfl rfl (by omega) (by decide) rfl dX5_free_45 ?_
      refine j_iload_n 46 cx 0 dX5_free_46 rfl ?_
      have ze : (sp_free (nI k) v S) = ((sN S) 1 k, stN S (up2 (sN S) 1 k v)) := by unfold sp_free; simp [zc1, zc2, hkc]
      exact fin () _ _ _ _ dX5_free_47 rfl (by rw [ze] <;> rfl) (by rw [ze] <;> rfl) trivial
    · skip
      refine j_aload_n 19 cx 0 dX5_free_19 rfl ?_
      refine j_ldc 20 cx (v := -1000000001) (List.mem_of_getElem? (i := 1) rfl) dX5_free_20 ?_
      refine j_callV_i 22 cx 1 [0, 1] [.int (fcode 0)] (fun _ => wXO o ax (sP S) ++ ([((ax 7), .inl (gI G, 7, .inl (upd (sF S) 0 ((sF S) 0 + 1))))] ++ wN G (ax 1) qh (sN S))) (c_X5_finding (kl K) G o ax (sP S) (sF S) 0 (by decide)) gX5_free_X5_finding rfl rfl rfl ⟨rfl, by decide, by decide, rfl⟩ ⟨Nat.le_of_ble_eq_true rfl, Nat.le_of_ble_eq_true rfl⟩ ⟨Nat.zero_le _, Nat.zero_le _⟩ rfl (by decide) (ci := 4) 0 rfl rfl rfl rfl rfl (Nat.le_of_ble_eq_true rfl) dX5_free_22 (fun _ => rfl) (fun zu4 zk4 => ?_)
      refine j_top (fcode 0) rfl ?_
      have ze : (sp_free pl v S) = bad S 0 := by unfold sp_free; simp [zc1, zc2]
      exact fin () _ _ _ _ dX5_free_25 rfl (by rw [ze] <;> rfl) (by rw [ze] <;> rfl) trivial
set_option maxRecDepth 100000 in
set_option maxHeartbeats 4000000 in
theorem c_X5_now (l : Launch) (G : pG) (o : Nat) (ax : Nat → Nat) (qh qt qk : Nat → Nat) (S : St) (τ : Nu) (hI : Inv (sN S)) (hD : dyN (sN S) ≤ 9999) (w : Int32) : KI l G yX5_now wsX5_now ({ frames := 4, cells := 0, slots := 0, locals := 96 } : Room) [.ref o, .int w] (wXO o ax (sP S) ++ ([((ax 7), .inl (gI G, 7, .inl (sF S)))] ++ wN G (ax 1) qh (sN S))) (S := Unit) (fun _ => True) (fun u => (sp_now w S).1) (fun u => wXO o ax (sP S) ++ ([((ax 7), .inl (gI G, 7, .inl (sF (sp_now w S).2)))] ++ wN G (ax 1) qh (sN (sp_now w S).2))) := by
  refine ki_of [(0, .ref o), (1, .int w)] (own := RX5) (cc := cX5_now) (nL := 2) (by decide +kernel) rfl rfl (Nat.le_of_ble_eq_true rfl) rfl (fun _ => rfl) (fun K cx fin => ?_)
  refine j_iload_n 0 cx 1 dX5_now_0 rfl ?_
  by_cases zc1 : w = 0
  · skip
    refine j_tableIn 1 cx 44 (0) dX5_now_1 zc1 (by decide) (by decide) (by decide) rfl (by decide) ?_
    refine j_aload_n 44 cx 0 dX5_now_44 rfl ?_
    refine j_get 45 cx 0 0 (T := TX5) (v := .ref ((ax 1))) (fun _ h => List.mem_cons_of_mem _ (List.mem_append_left _ (List.mem_append_right _ (h)))) (List.mem_of_getElem? (i := 1) rfl) (ci := 4) rfl (by decide) rfl rfl rfl dX5_now_45 ?_
    refine j_get 48 cx 2 0 (T := TX1) (v := .int ((sN S) 0 0)) (fun _ h => List.mem_cons_of_mem _ (List.mem_append_right _ (h))) (List.mem_of_getElem? (i := 2) rfl) (ci := 0) rfl (by decide) rfl rfl rfl dX5_now_48 ?_
    have ze : (sp_now w S) = ((sN S) 0 0, S) := by unfold sp_now; simp [isP_eq hI, zc1]
    exact fin () _ _ _ _ dX5_now_51 rfl (by rw [ze] <;> rfl) (by rw [ze] <;> rfl) trivial
  · skip
    by_cases zc2 : w = 1
    · skip
      refine j_tableIn 1 cx 52 (1) dX5_now_1 zc2 (by decide) (by decide) (by decide) rfl (by decide) ?_
      refine j_aload_n 52 cx 0 dX5_now_52 rfl ?_
      refine j_get 53 cx 0 0 (T := TX5) (v := .ref ((ax 1))) (fun _ h => List.mem_cons_of_mem _ (List.mem_append_left _ (List.mem_append_right _ (h)))) (List.mem_of_getElem? (i := 1) rfl) (ci := 4) rfl (by decide) rfl rfl rfl dX5_now_53 ?_
      refine j_callV_i 56 cx 0 [2, 3, 4, 5, 6, 7, 8] [] (fun _ => wXO o ax (sP S) ++ ([((ax 7), .inl (gI G, 7, .inl (sF S)))] ++ wN G (ax 1) qh (sN S))) (c_X1_isHoliday (kl K) G (ax 1) qh (sN S) hI.dy hI.dyM) gX5_now_X1_isHoliday rfl rfl rfl ⟨rfl, by decide, by decide, rfl⟩ ⟨Nat.le_of_ble_eq_true rfl, Nat.le_of_ble_eq_true rfl⟩ ⟨Nat.zero_le _, Nat.zero_le _⟩ rfl (by decide) (ci := 0) 0 rfl rfl rfl rfl rfl (Nat.le_of_ble_eq_true rfl) dX5_now_56 (fun _ => rfl) (fun zu1 zk1 => ?_)
      refine j_top (bI (hol (sN S))) rfl ?_
      refine j_callS_i 59 cx 1 [] [.int (bI (hol (sN S)))] (fun _ => wXO o ax (sP S) ++ ([((ax 7), .inl (gI G, 7, .inl (sF S)))] ++ wN G (ax 1) qh (sN S))) (c_X5_bit (kl K) G (hol (sN S))) gX5_now_X5_bit rfl rfl rfl ⟨by decide, by decide, rfl⟩ ⟨Nat.le_of_ble_eq_true rfl, Nat.le_of_ble_eq_true rfl⟩ ⟨Nat.zero_le _, Nat.zero_le _⟩ rfl (by decide) rfl rfl (Nat.le_of_ble_eq_true rfl) dX5_now_59 (fun _ => rfl) (fun zu2 zk2 => ?_)
      refine j_top (bI (hol (sN S))) rfl ?_
      have ze : (sp_now w S) = (bI (hol (sN S)), S) := by unfold sp_now; simp [isP_eq hI, zc1, zc2]
      exact fin () _ _ _ _ dX5_now_62 rfl (by rw [ze] <;> rfl) (by rw [ze] <;> rfl) trivial
    · skip
      by_cases zc3 : w = 2
      · skip
        refine j_tableIn 1 cx 63 (2) dX5_now_1 zc3 (by decide) (by decide) (by decide) rfl (by decide) ?_
        refine j_aload_n 63 cx 0 dX5_now_63 rfl ?_
        refine j_get 64 cx 0 0 (T := TX5) (v := .ref ((ax 1))) (fun _ h => List.mem_cons_of_mem _ (List.mem_append_left _ (List.mem_append_right _ (h)))) (List.mem_of_getElem? (i := 1) rfl) (ci := 4) rfl (by decide) rfl rfl rfl dX5_now_64 ?_
        refine j_get 67 cx 2 1 (T := TX1) (v := .int ((sN S) 0 1)) (fun _ h => List.mem_cons_of_mem _ (List.mem_append_right _ (h))) (List.mem_of_getElem? (i := 3) rfl) (ci := 0) rfl (by decide) rfl rfl rfl dX5_now_67 ?_
        have ze : (sp_now w S) = ((sN S) 0 1, S) := by unfold sp_now; simp [isP_eq hI, zc1, zc2, zc3]
        exact fin () _ _ _ _ dX5_now_70 rfl (by rw [ze] <;> rfl) (by rw [ze] <;> rfl) trivial
      · skip
        by_cases zc4 : w = 3
        · skip
          refine j_tableIn 1 cx 71 (3) dX5_now_1 zc4 (by decide) (by decide) (by decide) rfl (by decide) ?_
          refine j_aload_n 71 cx 0 dX5_now_71 rfl ?_
          refine j_get 72 cx 0 0 (T := TX5) (v := .ref ((ax 1))) (fun _ h => List.mem_cons_of_mem _ (List.mem_append_left _ (List.mem_append_right _ (h)))) (List.mem_of_getElem? (i := 1) rfl) (ci := 4) rfl (by decide) rfl rfl rfl dX5_now_72 ?_
          refine j_get 75 cx 2 2 (T := TX1) (v := .int ((sN S) 0 2)) (fun _ h => List.mem_cons_of_mem _ (List.mem_append_right _ (h))) (List.mem_of_getElem? (i := 4) rfl) (ci := 0) rfl (by decide) rfl rfl rfl dX5_now_75 ?_
          have ze : (sp_now w S) = ((sN S) 0 2, S) := by unfold sp_now; simp [isP_eq hI, zc1, zc2, zc3, zc4]
          exact fin () _ _ _ _ dX5_now_78 rfl (by rw [ze] <;> rfl) (by rw [ze] <;> rfl) trivial
        · skip
          by_cases zc5 : w = 4
          · skip
            refine j_tableIn 1 cx 79 (4) dX5_now_1 zc5 (by decide) (by decide) (by decide) rfl (by decide) ?_
            refine j_aload_n 79 cx 0 dX5_now_79 rfl ?_
            refine j_get 80 cx 0 0 (T := TX5) (v := .ref ((ax 1))) (fun _ h => List.mem_cons_of_mem _ (List.mem_append_left _ (List.mem_append_right _ (h)))) (List.mem_of_getElem? (i := 1) rfl) (ci := 4) rfl (by decide) rfl rfl rfl dX5_now_80 ?_
            refine j_callV_i 83 cx 0 [2, 3, 4, 5, 6, 7, 8] [] (fun _ => wXO o ax (sP S) ++ ([((ax 7), .inl (gI G, 7, .inl (sF S)))] ++ wN G (ax 1) qh (sN S))) (c_X1_loudest (kl K) G (ax 1) qh (sN S) hI) gX5_now_X1_loudest rfl rfl rfl ⟨rfl, by decide, by decide, rfl⟩ ⟨Nat.le_of_ble_eq_true rfl, Nat.le_of_ble_eq_true rfl⟩ ⟨Nat.zero_le _, Nat.zero_le _⟩ rfl (by decide) (ci := 0) 0 rfl rfl rfl rfl rfl (Nat.le_of_ble_eq_true rfl) dX5_now_83 (fun _ => rfl) (fun zu3 zk3 => ?_)
            refine j_top (oI (loud (sN S))) rfl ?_
            have ze : (sp_now w S) = (oI (loud (sN S)), S) := by unfold sp_now; simp [isP_eq hI, zc1, zc2, zc3, zc4, zc5]
            exact fin () _ _ _ _ dX5_now_86 rfl (by rw [ze] <;> rfl) (by rw [ze] <;> rfl) trivial
          · skip
            by_cases zc6 : w = 5
            · skip
              refine j_tableIn 1 cx 87 (5) dX5_now_1 zc6 (by decide) (by decide) (by decide) rfl (by decide) ?_
              refine j_aload_n 87 cx 0 dX5_now_87 rfl ?_
              refine j_get 88 cx 0 0 (T := TX5) (v := .ref ((ax 1))) (fun _ h => List.mem_cons_of_mem _ (List.mem_append_left _ (List.mem_append_right _ (h)))) (List.mem_of_getElem? (i := 1) rfl) (ci := 4) rfl (by decide) rfl rfl rfl dX5_now_88 ?_
              refine j_callV_i 91 cx 0 [2, 3, 4, 5, 6, 7, 8] [] (fun _ => wXO o ax (sP S) ++ ([((ax 7), .inl (gI G, 7, .inl (sF S)))] ++ wN G (ax 1) qh (sN S))) (c_X1_doneSet (kl K) G (ax 1) qh (sN S) hI) gX5_now_X1_doneSet rfl rfl rfl ⟨rfl, by decide, by decide, rfl⟩ ⟨Nat.le_of_ble_eq_true rfl, Nat.le_of_ble_eq_true rfl⟩ ⟨Nat.zero_le _, Nat.zero_le _⟩ rfl (by decide) (ci := 0) 0 rfl rfl rfl rfl rfl (Nat.le_of_ble_eq_true rfl) dX5_now_91 (fun _ => rfl) (fun zu4 zk4 => ?_)
              refine j_top (setF (sN S) (done (sN S)) (szN (sN S))) rfl ?_
              have ze : (sp_now w S) = (setF (sN S) (done (sN S)) (szN (sN S)), S) := by unfold sp_now; simp [isP_eq hI, zc1, zc2, zc3, zc4, zc5, zc6]
              exact fin () _ _ _ _ dX5_now_94 rfl (by rw [ze] <;> rfl) (by rw [ze] <;> rfl) trivial
            · skip
              by_cases zc7 : w = 6
              · skip
                refine j_tableIn 1 cx 95 (6) dX5_now_1 zc7 (by decide) (by decide) (by decide) rfl (by decide) ?_
                refine j_aload_n 95 cx 0 dX5_now_95 rfl ?_
                refine j_get 96 cx 0 0 (T := TX5) (v := .ref ((ax 1))) (fun _ h => List.mem_cons_of_mem _ (List.mem_append_left _ (List.mem_append_right _ (h)))) (List.mem_of_getElem? (i := 1) rfl) (ci := 4) rfl (by decide) rfl rfl rfl dX5_now_96 ?_
                refine j_callV_i 99 cx 0 [2, 3, 4, 5, 6, 7, 8] [] (fun _ => wXO o ax (sP S) ++ ([((ax 7), .inl (gI G, 7, .inl (sF S)))] ++ wN G (ax 1) qh (sN S))) (c_X1_behindhandSet (kl K) G (ax 1) qh (sN S) hI) gX5_now_X1_behindhandSet rfl rfl rfl ⟨rfl, by decide, by decide, rfl⟩ ⟨Nat.le_of_ble_eq_true rfl, Nat.le_of_ble_eq_true rfl⟩ ⟨Nat.zero_le _, Nat.zero_le _⟩ rfl (by decide) (ci := 0) 0 rfl rfl rfl rfl rfl (Nat.le_of_ble_eq_true rfl) dX5_now_99 (fun _ => rfl) (fun zu5 zk5 => ?_)
                refine j_top (setF (sN S) (behF (sN S)) (szN (sN S))) rfl ?_
                have ze : (sp_now w S) = (setF (sN S) (behF (sN S)) (szN (sN S)), S) := by unfold sp_now; simp [isP_eq hI, zc1, zc2, zc3, zc4, zc5, zc6, zc7]
                exact fin () _ _ _ _ dX5_now_102 rfl (by rw [ze] <;> rfl) (by rw [ze] <;> rfl) trivial
              · skip
                refine j_tableOut 1 cx 103 dX5_now_1 (tb_out (fun z h1 h2 => by
                    have hz : z = 0 ∨ z = 1 ∨ z = 2 ∨ z = 3 ∨ z = 4 ∨ z = 5 ∨ z = 6 := by omega
                    rcases hz with rfl | rfl | rfl | rfl | rfl | rfl | rfl
                    · exact ne_ti zc1 (by decide)
                    · exact ne_ti zc2 (by decide)
                    · exact ne_ti zc3 (by decide)
                    · exact ne_ti zc4 (by decide)
                    · exact ne_ti zc5 (by decide)
                    · exact ne_ti zc6 (by decide)
                    · exact ne_ti zc7 (by decide))) (by decide) ?_
                refine j_aload_n 103 cx 0 dX5_now_103 rfl ?_
                refine j_ldc 104 cx (v := -1000000001) (List.mem_of_getElem? (i := 5) rfl) dX5_now_104 ?_
                refine j_callV_i 106 cx 1 [0, 1] [.int (fcode 0)] (fun _ => wXO o ax (sP S) ++ ([((ax 7), .inl (gI G, 7, .inl (upd (sF S) 0 ((sF S) 0 + 1))))] ++ wN G (ax 1) qh (sN S))) (c_X5_finding (kl K) G o ax (sP S) (sF S) 0 (by decide)) gX5_now_X5_finding rfl rfl rfl ⟨rfl, by decide, by decide, rfl⟩ ⟨Nat.le_of_ble_eq_true rfl, Nat.le_of_ble_eq_true rfl⟩ ⟨Nat.zero_le _, Nat.zero_le _⟩ rfl (by decide) (ci := 4) 0 rfl rfl rfl rfl rfl (Nat.le_of_ble_eq_true rfl) dX5_now_106 (fun _ => rfl) (fun zu6 zk6 => ?_)
                refine j_top (fcode 0) rfl ?_
                have ze : (sp_now w S) = bad S 0 := by unfold sp_now; simp [isP_eq hI, zc1, zc2, zc3, zc4, zc5, zc6, zc7]
                exact fin () _ _ _ _ dX5_now_109 rfl (by rw [ze] <;> rfl) (by rw [ze] <;> rfl) trivial
set_option maxRecDepth 100000 in
set_option maxHeartbeats 4000000 in
theorem c_X5_part (l : Launch) (G : pG) (o : Nat) (ax : Nat → Nat) (qh qt qk : Nat → Nat) (S : St) (τ : Nu) (hI : Inv (sN S)) (hD : dyN (sN S) ≤ 9999) (k d : Int32) : KI l G yX5_part wsX5_part ({ frames := 2, cells := 0, slots := 0, locals := 45 } : Room) [.ref o, .int k, .int d] (wXO o ax (sP S) ++ ([((ax 7), .inl (gI G, 7, .inl (sF S)))] ++ wN G (ax 1) qh (sN S))) (S := Unit) (fun _ => True) (fun u => (sp_part k d S).1) (fun u => wXO o ax (sP S) ++ ([((ax 7), .inl (gI G, 7, .inl (sF (sp_part k d S).2)))] ++ wN G (ax 1) qh (sN (sp_part k d S).2))) := by
  refine ki_of [(0, .ref o), (1, .int k), (2, .int d)] (own := RX5) (cc := cX5_part) (nL := 3) (by decide +kernel) rfl rfl (Nat.le_of_ble_eq_true rfl) rfl (fun _ => rfl) (fun K cx fin => ?_)
  refine j_iload_n 0 cx 1 dX5_part_0 rfl ?_
  refine j_callS_i 1 cx 1 [] [.int k] (fun _ => wXO o ax (sP S) ++ ([((ax 7), .inl (gI G, 7, .inl (sF S)))] ++ wN G (ax 1) qh (sN S))) (c_X5_isKind (kl K) G k) gX5_part_X5_isKind rfl rfl rfl ⟨by decide, by decide, rfl⟩ ⟨Nat.le_of_ble_eq_true rfl, Nat.le_of_ble_eq_true rfl⟩ ⟨Nat.zero_le _, Nat.zero_le _⟩ rfl (by decide) rfl rfl (Nat.le_of_ble_eq_true rfl) dX5_part_1 (fun _ => rfl) (fun zu1 zk1 => ?_)
  refine j_top (bI (inI k 0 5)) rfl ?_
  refine j_ifB_eq 4 cx 18 dX5_part_4 (by decide) (fun zc1 => ?_) (fun zc1 => ?_)
  · skip
    refine j_aload_n 18 cx 0 dX5_part_18 rfl ?_
    refine j_ldc 19 cx (v := -1000000001) (List.mem_of_getElem? (i := 1) rfl) dX5_part_19 ?_
    refine j_callV_i 21 cx 1 [0, 1] [.int (fcode 0)] (fun _ => wXO o ax (sP S) ++ ([((ax 7), .inl (gI G, 7, .inl (upd (sF S) 0 ((sF S) 0 + 1))))] ++ wN G (ax 1) qh (sN S))) (c_X5_finding (kl K) G o ax (sP S) (sF S) 0 (by decide)) gX5_part_X5_finding rfl rfl rfl ⟨rfl, by decide, by decide, rfl⟩ ⟨Nat.le_of_ble_eq_true rfl, Nat.le_of_ble_eq_true rfl⟩ ⟨Nat.zero_le _, Nat.zero_le _⟩ rfl (by decide) (ci := 4) 0 rfl rfl rfl rfl rfl (Nat.le_of_ble_eq_true rfl) dX5_part_21 (fun _ => rfl) (fun zu2 zk2 => ?_)
    refine j_top (fcode 0) rfl ?_
    have ze : (sp_part k d S) = bad S 0 := by unfold sp_part; simp [zc1]
    exact fin () _ _ _ _ dX5_part_24 rfl (by rw [ze] <;> rfl) (by rw [ze] <;> rfl) trivial
  · skip
    refine j_iload_n 7 cx 2 dX5_part_7 rfl ?_
    refine j_iconst 8 cx 0 dX5_part_8 (by decide) ?_
    refine j_sipush 9 cx 9999 dX5_part_9 (by decide) ?_
    refine j_callS_i 12 cx 3 [] [.int d, .int 0, .int 9999] (fun _ => wXO o ax (sP S) ++ ([((ax 7), .inl (gI G, 7, .inl (sF S)))] ++ wN G (ax 1) qh (sN S))) (c_X5_inside (kl K) G d 0 9999) gX5_part_X5_inside rfl rfl rfl ⟨by decide, by decide, rfl⟩ ⟨Nat.le_of_ble_eq_true rfl, Nat.le_of_ble_eq_true rfl⟩ ⟨Nat.zero_le _, Nat.zero_le _⟩ rfl (by decide) rfl rfl (Nat.le_of_ble_eq_true rfl) dX5_part_12 (fun _ => rfl) (fun zu3 zk3 => ?_)
    refine j_top (bI (inI d 0 9999)) rfl ?_
    refine j_ifB_ne 15 cx 25 dX5_part_15 (by decide) (fun zc2 => ?_) (fun zc2 => ?_)
    · skip
      refine j_aload_n 25 cx 0 dX5_part_25 rfl ?_
      refine j_get 26 cx 0 0 (T := TX5) (v := .ref ((ax 1))) (fun _ h => List.mem_cons_of_mem _ (List.mem_append_left _ (List.mem_append_right _ (h)))) (List.mem_of_getElem? (i := 2) rfl) (ci := 4) rfl (by decide) rfl rfl rfl dX5_part_26 ?_
      refine j_callV_i 29 cx 0 [2, 3, 4, 5, 6, 7, 8] [] (fun _ => wXO o ax (sP S) ++ ([((ax 7), .inl (gI G, 7, .inl (sF S)))] ++ wN G (ax 1) qh (sN S))) (c_X1_isFull (kl K) G (ax 1) qh (sN S) hI.sz hI.sz8) gX5_part_X1_isFull rfl rfl rfl ⟨rfl, by decide, by decide, rfl⟩ ⟨Nat.le_of_ble_eq_true rfl, Nat.le_of_ble_eq_true rfl⟩ ⟨Nat.zero_le _, Nat.zero_le _⟩ rfl (by decide) (ci := 0) 0 rfl rfl rfl rfl rfl (Nat.le_of_ble_eq_true rfl) dX5_part_29 (fun _ => rfl) (fun zu4 zk4 => ?_)
      refine j_top (bI (decide (8 ≤ szN (sN S)))) rfl ?_
      refine j_ifB_eq 32 cx 42 dX5_part_32 (by decide) (fun zc3 => ?_) (fun zc3 => ?_)
      · skip
        have hz8 : szN (sN S) < 8 := by have h2 := of_decide_eq_false zc3; omega
        have hz9 : ¬ szN (sN S) = 8 := by omega
        refine j_aload_n 42 cx 0 dX5_part_42 rfl ?_
        refine j_get 43 cx 0 0 (T := TX5) (v := .ref ((ax 1))) (fun _ h => List.mem_cons_of_mem _ (List.mem_append_left _ (List.mem_append_right _ (h)))) (List.mem_of_getElem? (i := 2) rfl) (ci := 4) rfl (by decide) rfl rfl rfl dX5_part_43 ?_
        refine j_iload_n 46 cx 1 dX5_part_46 rfl ?_
        refine j_bipush 47 cx 10 dX5_part_47 (by decide) ?_
        refine j_iload_n 49 cx 2 dX5_part_49 rfl ?_
        refine j_iconst 50 cx 0 dX5_part_50 (by decide) ?_
        refine j_callV_i 51 cx 4 [2, 3, 4, 5, 6, 7, 8] [.int k, .int 10, .int d, .int 0] (fun _ => wXO o ax (sP S) ++ ([((ax 7), .inl (gI G, 7, .inl (sF S)))] ++ wN G (ax 1) qh (addF (sN S) k 10 d 0))) (c_X1_add (kl K) G (ax 1) qh (sN S) k 10 d 0 hI.sz hz8) gX5_part_X1_add rfl rfl rfl ⟨rfl, by decide, by decide, rfl⟩ ⟨Nat.le_of_ble_eq_true rfl, Nat.le_of_ble_eq_true rfl⟩ ⟨Nat.zero_le _, Nat.zero_le _⟩ rfl (by decide) (ci := 0) 0 rfl rfl rfl rfl rfl (Nat.le_of_ble_eq_true rfl) dX5_part_51 (fun _ => rfl) (fun zu5 zk5 => ?_)
        refine j_top (nI (szN (sN S))) rfl ?_
        have ze : (sp_part k d S) = (nI (szN (sN S)), stN S (addF (sN S) k 10 d 0)) := by unfold sp_part; simp [zc1, zc2, zc3, hz9]
        exact fin () _ _ _ _ dX5_part_54 rfl (by rw [ze] <;> rfl) (by rw [ze] <;> rfl) trivial
      · skip
        have hz9 : szN (sN S) = 8 := by have h1 := hI.sz8; have h2 := of_decide_eq_true zc3; omega
        refine j_aload_n 35 cx 0 dX5_part_35 rfl ?_
        refine j_ldc 36 cx (v := -1000000002) (List.mem_of_getElem? (i := 3) rfl) dX5_part_36 ?_
        refine j_callV_i 38 cx 1 [0, 1] [.int (fcode 1)] (fun _ => wXO o ax (sP S) ++ ([((ax 7), .inl (gI G, 7, .inl (upd (sF S) 1 ((sF S) 1 + 1))))] ++ wN G (ax 1) qh (sN S))) (c_X5_finding (kl K) G o ax (sP S) (sF S) 1 (by decide)) gX5_part_X5_finding rfl rfl rfl ⟨rfl, by decide, by decide, rfl⟩ ⟨Nat.le_of_ble_eq_true rfl, Nat.le_of_ble_eq_true rfl⟩ ⟨Nat.zero_le _, Nat.zero_le _⟩ rfl (by decide) (ci := 4) 0 rfl rfl rfl rfl rfl (Nat.le_of_ble_eq_true rfl) dX5_part_38 (fun _ => rfl) (fun zu6 zk6 => ?_)
        refine j_top (fcode 1) rfl ?_
        have ze : (sp_part k d S) = bad S 1 := by unfold sp_part; simp [zc1, zc2, zc3, hz9]
        exact fin () _ _ _ _ dX5_part_41 rfl (by rw [ze] <;> rfl) (by rw [ze] <;> rfl) trivial
    · skip
      refine j_aload_n 18 cx 0 dX5_part_18 rfl ?_
      refine j_ldc 19 cx (v := -1000000001) (List.mem_of_getElem? (i := 1) rfl) dX5_part_19 ?_
      refine j_callV_i 21 cx 1 [0, 1] [.int (fcode 0)] (fun _ => wXO o ax (sP S) ++ ([((ax 7), .inl (gI G, 7, .inl (upd (sF S) 0 ((sF S) 0 + 1))))] ++ wN G (ax 1) qh (sN S))) (c_X5_finding (kl K) G o ax (sP S) (sF S) 0 (by decide)) gX5_part_X5_finding rfl rfl rfl ⟨rfl, by decide, by decide, rfl⟩ ⟨Nat.le_of_ble_eq_true rfl, Nat.le_of_ble_eq_true rfl⟩ ⟨Nat.zero_le _, Nat.zero_le _⟩ rfl (by decide) (ci := 4) 0 rfl rfl rfl rfl rfl (Nat.le_of_ble_eq_true rfl) dX5_part_21 (fun _ => rfl) (fun zu7 zk7 => ?_)
      refine j_top (fcode 0) rfl ?_
      have ze : (sp_part k d S) = bad S 0 := by unfold sp_part; simp [zc1, zc2]
      exact fin () _ _ _ _ dX5_part_24 rfl (by rw [ze] <;> rfl) (by rw [ze] <;> rfl) trivial
set_option maxRecDepth 100000 in
set_option maxHeartbeats 4000000 in
theorem c_X5_of (l : Launch) (G : pG) (o : Nat) (ax : Nat → Nat) (qh qt qk : Nat → Nat) (S : St) (τ : Nu) (hI : Inv (sN S)) (hD : dyN (sN S) ≤ 9999) (p w : Int32) : KI l G yX5_of wsX5_of ({ frames := 3, cells := 0, slots := 0, locals := 71 } : Room) [.ref o, .int p, .int w] (wXO o ax (sP S) ++ ([((ax 7), .inl (gI G, 7, .inl (sF S)))] ++ wN G (ax 1) qh (sN S))) (S := Unit) (fun _ => True) (fun u => (sp_of p w S).1) (fun u => wXO o ax (sP S) ++ ([((ax 7), .inl (gI G, 7, .inl (sF (sp_of p w S).2)))] ++ wN G (ax 1) qh (sN (sp_of p w S).2))) := by
  refine ki_of [(0, .ref o), (1, .int p), (2, .int w)] (own := RX5) (cc := cX5_of) (nL := 3) (by decide +kernel) rfl rfl (Nat.le_of_ble_eq_true rfl) rfl (fun _ => rfl) (fun K cx fin => ?_)
  refine j_aload_n 0 cx 0 dX5_of_0 rfl ?_
  refine j_iload_n 1 cx 1 dX5_of_1 rfl ?_
  refine j_callV_i 2 cx 1 [0, 2, 3, 4, 5, 6, 7, 8] [.int p] (fun _ => wXO o ax (sP S) ++ ([((ax 7), .inl (gI G, 7, .inl (sF S)))] ++ wN G (ax 1) qh (sN S))) (c_X5_hasPart (kl K) G o ax (sP S) qh (sN S) p hI) gX5_of_X5_hasPart rfl rfl rfl ⟨rfl, by decide, by decide, rfl⟩ ⟨Nat.le_of_ble_eq_true rfl, Nat.le_of_ble_eq_true rfl⟩ ⟨Nat.zero_le _, Nat.zero_le _⟩ rfl (by decide) (ci := 4) 0 rfl rfl rfl rfl rfl (Nat.le_of_ble_eq_true rfl) dX5_of_2 (fun _ => rfl) (fun zu1 zk1 => ?_)
  refine j_top (bI (inI p 0 (nI (szN (sN S)) - 1))) rfl ?_
  refine j_ifB_ne 5 cx 15 dX5_of_5 (by decide) (fun zc1 => ?_) (fun zc1 => ?_)
  · skip
    obtain ⟨k, hk, rfl⟩ := in_n (by have := hI.sz8; omega) zc1
    have h8 := hI.sz8
    have hkc : (nI k).toNatClampNeg = k := nI_clamp (by omega)
    refine j_iload_n 15 cx 2 dX5_of_15 rfl ?_
    by_cases zc2 : w = 0
    · skip
      refine j_tableIn 16 cx 72 (0) dX5_of_16 zc2 (by decide) (by decide) (by decide) rfl (by decide) ?_
      refine j_aload_n 72 cx 0 dX5_of_72 rfl ?_
      refine j_get 73 cx 0 0 (T := TX5) (v := .ref ((ax 1))) (fun _ h => List.mem_cons_of_mem _ (List.mem_append_left _ (List.mem_append_right _ (h)))) (List.mem_of_getElem? (i := 2) rfl) (ci := 4) rfl (by decide) rfl rfl rfl dX5_of_73 ?_
      refine j_get 76 cx 2 5 (T := TX1) (v := .ref (qh 2)) (fun _ h => List.mem_cons_of_mem _ (List.mem_append_right _ (h))) (List.mem_of_getElem? (i := 3) rfl) (ci := 0) rfl (by decide) rfl rfl rfl dX5_of_76 ?_
      refine j_iload_n 79 cx 1 dX5_of_79 rfl ?_
      refine j_iald 80 cx 4 k rfl rfl (by omega) (by decide) dX5_of_80 ?_
      have ze : (sp_of (nI k) w S) = ((sN S) 2 k, S) := by unfold sp_of; simp [isP_eq hI, zc1, hkc, zc2]
      exact fin () _ _ _ _ dX5_of_81 rfl (by rw [ze] <;> rfl) (by rw [ze] <;> rfl) trivial
    · skip
      by_cases zc3 : w = 1
      · skip
        refine j_tableIn 16 cx 82 (1) dX5_of_16 zc3 (by decide) (by decide) (by decide) rfl (by decide) ?_
        refine j_aload_n 82 cx 0 dX5_of_82 rfl ?_
        refine j_get 83 cx 0 0 (T := TX5) (v := .ref ((ax 1))) (fun _ h => List.mem_cons_of_mem _ (List.mem_append_left _ (List.mem_append_right _ (h)))) (List.mem_of_getElem? (i := 2) rfl) (ci := 4) rfl (by decide) rfl rfl rfl dX5_of_83 ?_
        refine j_get 86 cx 2 6 (T := TX1) (v := .ref (qh 3)) (fun _ h => List.mem_cons_of_mem _ (List.mem_append_right _ (h))) (List.mem_of_getElem? (i := 4) rfl) (ci := 0) rfl (by decide) rfl rfl rfl dX5_of_86 ?_
        refine j_iload_n 89 cx 1 dX5_of_89 rfl ?_
        refine j_iald 90 cx 5 k rfl rfl (by omega) (by decide) dX5_of_90 ?_
        have ze : (sp_of (nI k) w S) = ((sN S) 3 k, S) := by unfold sp_of; simp [isP_eq hI, zc1, hkc, zc2, zc3]
        exact fin () _ _ _ _ dX5_of_91 rfl (by rw [ze] <;> rfl) (by rw [ze] <;> rfl) trivial
      · skip
        by_cases zc4 : w = 2
        · skip
          refine j_tableIn 16 cx 92 (2) dX5_of_16 zc4 (by decide) (by decide) (by decide) rfl (by decide) ?_
          refine j_aload_n 92 cx 0 dX5_of_92 rfl ?_
          refine j_get 93 cx 0 0 (T := TX5) (v := .ref ((ax 1))) (fun _ h => List.mem_cons_of_mem _ (List.mem_append_left _ (List.mem_append_right _ (h)))) (List.mem_of_getElem? (i := 2) rfl) (ci := 4) rfl (by decide) rfl rfl rfl dX5_of_93 ?_
          refine j_get 96 cx 2 7 (T := TX1) (v := .ref (qh 4)) (fun _ h => List.mem_cons_of_mem _ (List.mem_append_right _ (h))) (List.mem_of_getElem? (i := 5) rfl) (ci := 0) rfl (by decide) rfl rfl rfl dX5_of_96 ?_
          refine j_iload_n 99 cx 1 dX5_of_99 rfl ?_
          refine j_iald 100 cx 6 k rfl rfl (by omega) (by decide) dX5_of_100 ?_
          have ze : (sp_of (nI k) w S) = ((sN S) 4 k, S) := by unfold sp_of; simp [isP_eq hI, zc1, hkc, zc2, zc3, zc4]
          exact fin () _ _ _ _ dX5_of_101 rfl (by rw [ze] <;> rfl) (by rw [ze] <;> rfl) trivial
        · skip
          by_cases zc5 : w = 3
          · skip
            refine j_tableIn 16 cx 102 (3) dX5_of_16 zc5 (by decide) (by decide) (by decide) rfl (by decide) ?_
            refine j_aload_n 102 cx 0 dX5_of_102 rfl ?_
            refine j_get 103 cx 0 0 (T := TX5) (v := .ref ((ax 1))) (fun _ h => List.mem_cons_of_mem _ (List.mem_append_left _ (List.mem_append_right _ (h)))) (List.mem_of_getElem? (i := 2) rfl) (ci := 4) rfl (by decide) rfl rfl rfl dX5_of_103 ?_
            refine j_get 106 cx 2 8 (T := TX1) (v := .ref (qh 5)) (fun _ h => List.mem_cons_of_mem _ (List.mem_append_right _ (h))) (List.mem_of_getElem? (i := 6) rfl) (ci := 0) rfl (by decide) rfl rfl rfl dX5_of_106 ?_
            refine j_iload_n 109 cx 1 dX5_of_109 rfl ?_
            refine j_iald 110 cx 7 k rfl rfl (by omega) (by decide) dX5_of_110 ?_
            have ze : (sp_of (nI k) w S) = ((sN S) 5 k, S) := by unfold sp_of; simp [isP_eq hI, zc1, hkc, zc2, zc3, zc4, zc5]
            exact fin () _ _ _ _ dX5_of_111 rfl (by rw [ze] <;> rfl) (by rw [ze] <;> rfl) trivial
          · skip
            by_cases zc6 : w = 4
            · skip
              refine j_tableIn 16 cx 112 (4) dX5_of_16 zc6 (by decide) (by decide) (by decide) rfl (by decide) ?_
              refine j_aload_n 112 cx 0 dX5_of_112 rfl ?_
              refine j_get 113 cx 0 0 (T := TX5) (v := .ref ((ax 1))) (fun _ h => List.mem_cons_of_mem _ (List.mem_append_left _ (List.mem_append_right _ (h)))) (List.mem_of_getElem? (i := 2) rfl) (ci := 4) rfl (by decide) rfl rfl rfl dX5_of_113 ?_
              refine j_get 116 cx 2 9 (T := TX1) (v := .ref (qh 6)) (fun _ h => List.mem_cons_of_mem _ (List.mem_append_right _ (h))) (List.mem_of_getElem? (i := 7) rfl) (ci := 0) rfl (by decide) rfl rfl rfl dX5_of_116 ?_
              refine j_iload_n 119 cx 1 dX5_of_119 rfl ?_
              refine j_iald 120 cx 8 k rfl rfl (by omega) (by decide) dX5_of_120 ?_
              have ze : (sp_of (nI k) w S) = ((sN S) 6 k, S) := by unfold sp_of; simp [isP_eq hI, zc1, hkc, zc2, zc3, zc4, zc5, zc6]
              exact fin () _ _ _ _ dX5_of_121 rfl (by rw [ze] <;> rfl) (by rw [ze] <;> rfl) trivial
            · skip
              by_cases zc7 : w = 5
              · skip
                refine j_tableIn 16 cx 122 (5) dX5_of_16 zc7 (by decide) (by decide) (by decide) rfl (by decide) ?_
                refine j_aload_n 122 cx 0 dX5_of_122 rfl ?_
                refine j_get 123 cx 0 0 (T := TX5) (v := .ref ((ax 1))) (fun _ h => List.mem_cons_of_mem _ (List.mem_append_left _ (List.mem_append_right _ (h)))) (List.mem_of_getElem? (i := 2) rfl) (ci := 4) rfl (by decide) rfl rfl rfl dX5_of_123 ?_
                refine j_iload_n 126 cx 1 dX5_of_126 rfl ?_
                refine j_callV_i 127 cx 1 [2, 3, 4, 5, 6, 7, 8] [.int (nI k)] (fun _ => wXO o ax (sP S) ++ ([((ax 7), .inl (gI G, 7, .inl (sF S)))] ++ wN G (ax 1) qh (sN S))) (c_X1_needs (kl K) G (ax 1) qh (sN S) k  (by omega)) gX5_of_X1_needs rfl rfl rfl ⟨rfl, by decide, by decide, rfl⟩ ⟨Nat.le_of_ble_eq_true rfl, Nat.le_of_ble_eq_true rfl⟩ ⟨Nat.zero_le _, Nat.zero_le _⟩ rfl (by decide) (ci := 0) 0 rfl rfl rfl rfl rfl (Nat.le_of_ble_eq_true rfl) dX5_of_127 (fun _ => rfl) (fun zu2 zk2 => ?_)
                refine j_top (needF (sN S) k) rfl ?_
                have ze : (sp_of (nI k) w S) = (needF (sN S) k, S) := by unfold sp_of; simp [isP_eq hI, zc1, hkc, zc2, zc3, zc4, zc5, zc6, zc7]
                exact fin () _ _ _ _ dX5_of_130 rfl (by rw [ze] <;> rfl) (by rw [ze] <;> rfl) trivial
              · skip
                by_cases zc8 : w = 6
                · skip
                  refine j_tableIn 16 cx 131 (6) dX5_of_16 zc8 (by decide) (by decide) (by decide) rfl (by decide) ?_
                  refine j_aload_n 131 cx 0 dX5_of_131 rfl ?_
                  refine j_get 132 cx 0 0 (T := TX5) (v := .ref ((ax 1))) (fun _ h => List.mem_cons_of_mem _ (List.mem_append_left _ (List.mem_append_right _ (h)))) (List.mem_of_getElem? (i := 2) rfl) (ci := 4) rfl (by decide) rfl rfl rfl dX5_of_132 ?_
                  refine j_iload_n 135 cx 1 dX5_of_135 rfl ?_
                  refine j_callV_i 136 cx 1 [2, 3, 4, 5, 6, 7, 8] [.int (nI k)] (fun _ => wXO o ax (sP S) ++ ([((ax 7), .inl (gI G, 7, .inl (sF S)))] ++ wN G (ax 1) qh (sN S))) (c_X1_gives (kl K) G (ax 1) qh (sN S) k hI (by omega)) gX5_of_X1_gives rfl rfl rfl ⟨rfl, by decide, by decide, rfl⟩ ⟨Nat.le_of_ble_eq_true rfl, Nat.le_of_ble_eq_true rfl⟩ ⟨Nat.zero_le _, Nat.zero_le _⟩ rfl (by decide) (ci := 0) 0 rfl rfl rfl rfl rfl (Nat.le_of_ble_eq_true rfl) dX5_of_136 (fun _ => rfl) (fun zu3 zk3 => ?_)
                  refine j_top (giveF (sN S) k) rfl ?_
                  have ze : (sp_of (nI k) w S) = (giveF (sN S) k, S) := by unfold sp_of; simp [isP_eq hI, zc1, hkc, zc2, zc3, zc4, zc5, zc6, zc7, zc8]
                  exact fin () _ _ _ _ dX5_of_139 rfl (by rw [ze] <;> rfl) (by rw [ze] <;> rfl) trivial
                · skip
                  by_cases zc9 : w = 7
                  · skip
                    refine j_tableIn 16 cx 140 (7) dX5_of_16 zc9 (by decide) (by decide) (by decide) rfl (by decide) ?_
                    refine j_aload_n 140 cx 0 dX5_of_140 rfl ?_
                    refine j_get 141 cx 0 0 (T := TX5) (v := .ref ((ax 1))) (fun _ h => List.mem_cons_of_mem _ (List.mem_append_left _ (List.mem_append_right _ (h)))) (List.mem_of_getElem? (i := 2) rfl) (ci := 4) rfl (by decide) rfl rfl rfl dX5_of_141 ?_
                    refine j_iload_n 144 cx 1 dX5_of_144 rfl ?_
                    refine j_aload_n 145 cx 0 dX5_of_145 rfl ?_
                    refine j_get 146 cx 0 0 (T := TX5) (v := .ref ((ax 1))) (fun _ h => List.mem_cons_of_mem _ (List.mem_append_left _ (List.mem_append_right _ (h)))) (List.mem_of_getElem? (i := 2) rfl) (ci := 4) rfl (by decide) rfl rfl rfl dX5_of_146 ?_
                    refine j_callV_i 149 cx 0 [2, 3, 4, 5, 6, 7, 8] [] (fun _ => wXO o ax (sP S) ++ ([((ax 7), .inl (gI G, 7, .inl (sF S)))] ++ wN G (ax 1) qh (sN S))) (c_X1_undone (kl K) G (ax 1) qh (sN S) hI) gX5_of_X1_undone rfl rfl rfl ⟨rfl, by decide, by decide, rfl⟩ ⟨Nat.le_of_ble_eq_true rfl, Nat.le_of_ble_eq_true rfl⟩ ⟨Nat.zero_le _, Nat.zero_le _⟩ rfl (by decide) (ci := 0) 0 rfl rfl rfl rfl rfl (Nat.le_of_ble_eq_true rfl) dX5_of_149 (fun _ => rfl) (fun zu4 zk4 => ?_)
                    refine j_top (nI (undN (sN S) (szN (sN S)))) rfl ?_
                    refine j_callV_i 152 cx 2 [2, 3, 4, 5, 6, 7, 8] [.int (nI k), .int (nI (undN (sN S) (szN (sN S))))] (fun _ => wXO o ax (sP S) ++ ([((ax 7), .inl (gI G, 7, .inl (sF S)))] ++ wN G (ax 1) qh (sN S))) (c_X1_calls (kl K) G (ax 1) qh (sN S) k hI (by omega)) gX5_of_X1_calls rfl rfl rfl ⟨rfl, by decide, by decide, rfl⟩ ⟨Nat.le_of_ble_eq_true rfl, Nat.le_of_ble_eq_true rfl⟩ ⟨Nat.zero_le _, Nat.zero_le _⟩ rfl (by decide) (ci := 0) 0 rfl rfl rfl rfl rfl (Nat.le_of_ble_eq_true rfl) dX5_of_152 (fun _ => rfl) (fun zu5 zk5 => ?_)
                    refine j_top (callF (sN S) k) rfl ?_
                    have ze : (sp_of (nI k) w S) = (callF (sN S) k, S) := by unfold sp_of; simp [isP_eq hI, zc1, hkc, zc2, zc3, zc4, zc5, zc6, zc7, zc8, zc9]
                    exact fin () _ _ _ _ dX5_of_155 rfl (by rw [ze] <;> rfl) (by rw [ze] <;> rfl) trivial
                  · skip
                    by_cases zc10 : w = 8
                    · skip
                      refine j_tableIn 16 cx 156 (8) dX5_of_16 zc10 (by decide) (by decide) (by decide) rfl (by decide) ?_
                      refine j_bipush 156 cx 100 dX5_of_156 (by decide) ?_
                      refine j_aload_n 158 cx 0 dX5_of_158 rfl ?_
                      refine j_get 159 cx 0 0 (T := TX5) (v := .ref ((ax 1))) (fun _ h => List.mem_cons_of_mem _ (List.mem_append_left _ (List.mem_append_right _ (h)))) (List.mem_of_getElem? (i := 2) rfl) (ci := 4) rfl (by decide) rfl rfl rfl dX5_of_159 ?_
                      refine j_iload_n 162 cx 1 dX5_of_162 rfl ?_
                      refine j_callV_i 163 cx 1 [2, 3, 4, 5, 6, 7, 8] [.int (nI k)] (fun _ => wXO o ax (sP S) ++ ([((ax 7), .inl (gI G, 7, .inl (sF S)))] ++ wN G (ax 1) qh (sN S))) (c_X1_tires (kl K) G (ax 1) qh (sN S) k  (by omega)) gX5_of_X1_tires rfl rfl rfl ⟨rfl, by decide, by decide, rfl⟩ ⟨Nat.le_of_ble_eq_true rfl, Nat.le_of_ble_eq_true rfl⟩ ⟨Nat.zero_le _, Nat.zero_le _⟩ rfl (by decide) (ci := 0) 0 rfl rfl rfl rfl rfl (Nat.le_of_ble_eq_true rfl) dX5_of_163 (fun _ => rfl) (fun zu6 zk6 => ?_)
                      refine j_top (kTires ((sN S) 2 k)) rfl ?_
                      refine j_iadd 166 cx dX5_of_166 ?_
                      have ze : (sp_of (nI k) w S) = (100 + (kTires ((sN S) 2 k)), S) := by unfold sp_of; simp [isP_eq hI, zc1, hkc, zc2, zc3, zc4, zc5, zc6, zc7, zc8, zc9, zc10]
                      exact fin () _ _ _ _ dX5_of_167 rfl (by rw [ze] <;> rfl) (by rw [ze] <;> rfl) trivial
                    · skip
                      by_cases zc11 : w = 9
                      · skip
                        refine j_tableIn 16 cx 168 (9) dX5_of_16 zc11 (by decide) (by decide) (by decide) rfl (by decide) ?_
                        refine j_aload_n 168 cx 0 dX5_of_168 rfl ?_
                        refine j_get 169 cx 0 0 (T := TX5) (v := .ref ((ax 1))) (fun _ h => List.mem_cons_of_mem _ (List.mem_append_left _ (List.mem_append_right _ (h)))) (List.mem_of_getElem? (i := 2) rfl) (ci := 4) rfl (by decide) rfl rfl rfl dX5_of_169 ?_
                        refine j_iload_n 172 cx 1 dX5_of_172 rfl ?_
                        refine j_callV_i 173 cx 1 [2, 3, 4, 5, 6, 7, 8] [.int (nI k)] (fun _ => wXO o ax (sP S) ++ ([((ax 7), .inl (gI G, 7, .inl (sF S)))] ++ wN G (ax 1) qh (sN S))) (c_X1_isDone (kl K) G (ax 1) qh (sN S) k  (by omega)) gX5_of_X1_isDone rfl rfl rfl ⟨rfl, by decide, by decide, rfl⟩ ⟨Nat.le_of_ble_eq_true rfl, Nat.le_of_ble_eq_true rfl⟩ ⟨Nat.zero_le _, Nat.zero_le _⟩ rfl (by decide) (ci := 0) 0 rfl rfl rfl rfl rfl (Nat.le_of_ble_eq_true rfl) dX5_of_173 (fun _ => rfl) (fun zu7 zk7 => ?_)
                        refine j_top (bI (done (sN S) k)) rfl ?_
                        refine j_callS_i 176 cx 1 [] [.int (bI (done (sN S) k))] (fun _ => wXO o ax (sP S) ++ ([((ax 7), .inl (gI G, 7, .inl (sF S)))] ++ wN G (ax 1) qh (sN S))) (c_X5_bit (kl K) G (done (sN S) k)) gX5_of_X5_bit rfl rfl rfl ⟨by decide, by decide, rfl⟩ ⟨Nat.le_of_ble_eq_true rfl, Nat.le_of_ble_eq_true rfl⟩ ⟨Nat.zero_le _, Nat.zero_le _⟩ rfl (by decide) rfl rfl (Nat.le_of_ble_eq_true rfl) dX5_of_176 (fun _ => rfl) (fun zu8 zk8 => ?_)
                        refine j_top (bI (done (sN S) k)) rfl ?_
                        have ze : (sp_of (nI k) w S) = (bI (done (sN S) k), S) := by unfold sp_of; simp [isP_eq hI, zc1, hkc, zc2, zc3, zc4, zc5, zc6, zc7, zc8, zc9, zc10, zc11]
                        exact fin () _ _ _ _ dX5_of_179 rfl (by rw [ze] <;> rfl) (by rw [ze] <;> rfl) trivial
                      · skip
                        refine j_tableOut 16 cx 180 dX5_of_16 (tb_out (fun z h1 h2 => by
                            have hz : z = 0 ∨ z = 1 ∨ z = 2 ∨ z = 3 ∨ z = 4 ∨ z = 5 ∨ z = 6 ∨ z = 7 ∨ z = 8 ∨ z = 9 := by omega
                            rcases hz with rfl | rfl | rfl | rfl | rfl | rfl | rfl | rfl | rfl | rfl
                            · exact ne_ti zc2 (by decide)
                            · exact ne_ti zc3 (by decide)
                            · exact ne_ti zc4 (by decide)
                            · exact ne_ti zc5 (by decide)
                            · exact ne_ti zc6 (by decide)
                            · exact ne_ti zc7 (by decide)
                            · exact ne_ti zc8 (by decide)
                            · exact ne_ti zc9 (by decide)
                            · exact ne_ti zc10 (by decide)
                            · exact ne_ti zc11 (by decide))) (by decide) ?_
                        refine j_aload_n 180 cx 0 dX5_of_180 rfl ?_
                        refine j_ldc 181 cx (v := -1000000001) (List.mem_of_getElem? (i := 1) rfl) dX5_of_181 ?_
                        refine j_callV_i 183 cx 1 [0, 1] [.int (fcode 0)] (fun _ => wXO o ax (sP S) ++ ([((ax 7), .inl (gI G, 7, .inl (upd (sF S) 0 ((sF S) 0 + 1))))] ++ wN G (ax 1) qh (sN S))) (c_X5_finding (kl K) G o ax (sP S) (sF S) 0 (by decide)) gX5_of_X5_finding rfl rfl rfl ⟨rfl, by decide, by decide, rfl⟩ ⟨Nat.le_of_ble_eq_true rfl, Nat.le_of_ble_eq_true rfl⟩ ⟨Nat.zero_le _, Nat.zero_le _⟩ rfl (by decide) (ci := 4) 0 rfl rfl rfl rfl rfl (Nat.le_of_ble_eq_true rfl) dX5_of_183 (fun _ => rfl) (fun zu9 zk9 => ?_)
                        refine j_top (fcode 0) rfl ?_
                        have ze : (sp_of (nI k) w S) = bad S 0 := by unfold sp_of; simp [isP_eq hI, zc1, hkc, zc2, zc3, zc4, zc5, zc6, zc7, zc8, zc9, zc10, zc11]
                        exact fin () _ _ _ _ dX5_of_186 rfl (by rw [ze] <;> rfl) (by rw [ze] <;> rfl) trivial
  · skip
    refine j_aload_n 8 cx 0 dX5_of_8 rfl ?_
    refine j_ldc 9 cx (v := -1000000001) (List.mem_of_getElem? (i := 1) rfl) dX5_of_9 ?_
    refine j_callV_i 11 cx 1 [0, 1] [.int (fcode 0)] (fun _ => wXO o ax (sP S) ++ ([((ax 7), .inl (gI G, 7, .inl (upd (sF S) 0 ((sF S) 0 + 1))))] ++ wN G (ax 1) qh (sN S))) (c_X5_finding (kl K) G o ax (sP S) (sF S) 0 (by decide)) gX5_of_X5_finding rfl rfl rfl ⟨rfl, by decide, by decide, rfl⟩ ⟨Nat.le_of_ble_eq_true rfl, Nat.le_of_ble_eq_true rfl⟩ ⟨Nat.zero_le _, Nat.zero_le _⟩ rfl (by decide) (ci := 4) 0 rfl rfl rfl rfl rfl (Nat.le_of_ble_eq_true rfl) dX5_of_11 (fun _ => rfl) (fun zu10 zk10 => ?_)
    refine j_top (fcode 0) rfl ?_
    have ze : (sp_of p w S) = bad S 0 := by unfold sp_of; simp [isP_eq hI, zc1]
    exact fin () _ _ _ _ dX5_of_14 rfl (by rw [ze] <;> rfl) (by rw [ze] <;> rfl) trivial
set_option maxRecDepth 100000 in
set_option maxHeartbeats 4000000 in
theorem c_X5_left (l : Launch) (G : pG) (o : Nat) (ax : Nat → Nat) (qh qt qk : Nat → Nat) (S : St) (τ : Nu) (hI : Inv (sN S)) (hD : dyN (sN S) ≤ 9999) (p : Int32) : KI l G yX5_left wsX5_left ({ frames := 2, cells := 0, slots := 0, locals := 43 } : Room) [.ref o, .int p] (wXO o ax (sP S) ++ ([((ax 7), .inl (gI G, 7, .inl (sF S)))] ++ wN G (ax 1) qh (sN S))) (S := Unit) (fun _ => True) (fun u => (sp_left p S).1) (fun u => wXO o ax (sP S) ++ ([((ax 7), .inl (gI G, 7, .inl (sF (sp_left p S).2)))] ++ wN G (ax 1) qh (sN (sp_left p S).2))) := by
  refine ki_of [(0, .ref o), (1, .int p)] (own := RX5) (cc := cX5_left) (nL := 2) (by decide +kernel) rfl rfl (Nat.le_of_ble_eq_true rfl) rfl (fun _ => rfl) (fun K cx fin => ?_)
  refine j_aload_n 0 cx 0 dX5_left_0 rfl ?_
  refine j_iload_n 1 cx 1 dX5_left_1 rfl ?_
  refine j_callV_i 2 cx 1 [0, 2, 3, 4, 5, 6, 7, 8] [.int p] (fun _ => wXO o ax (sP S) ++ ([((ax 7), .inl (gI G, 7, .inl (sF S)))] ++ wN G (ax 1) qh (sN S))) (c_X5_hasPart (kl K) G o ax (sP S) qh (sN S) p hI) gX5_left_X5_hasPart rfl rfl rfl ⟨rfl, by decide, by decide, rfl⟩ ⟨Nat.le_of_ble_eq_true rfl, Nat.le_of_ble_eq_true rfl⟩ ⟨Nat.zero_le _, Nat.zero_le _⟩ rfl (by decide) (ci := 4) 0 rfl rfl rfl rfl rfl (Nat.le_of_ble_eq_true rfl) dX5_left_2 (fun _ => rfl) (fun zu1 zk1 => ?_)
  refine j_top (bI (inI p 0 (nI (szN (sN S)) - 1))) rfl ?_
  refine j_ifB_ne 5 cx 15 dX5_left_5 (by decide) (fun zc1 => ?_) (fun zc1 => ?_)
  · skip
    obtain ⟨k, hk, rfl⟩ := in_n (by have := hI.sz8; omega) zc1
    have h8 := hI.sz8
    have hkc : (nI k).toNatClampNeg = k := nI_clamp (by omega)
    refine j_iconst 15 cx 0 dX5_left_15 (by decide) ?_
    refine j_aload_n 16 cx 0 dX5_left_16 rfl ?_
    refine j_get 17 cx 0 0 (T := TX5) (v := .ref ((ax 1))) (fun _ h => List.mem_cons_of_mem _ (List.mem_append_left _ (List.mem_append_right _ (h)))) (List.mem_of_getElem? (i := 2) rfl) (ci := 4) rfl (by decide) rfl rfl rfl dX5_left_17 ?_
    refine j_iload_n 20 cx 1 dX5_left_20 rfl ?_
    refine j_callV_i 21 cx 1 [2, 3, 4, 5, 6, 7, 8] [.int (nI k)] (fun _ => wXO o ax (sP S) ++ ([((ax 7), .inl (gI G, 7, .inl (sF S)))] ++ wN G (ax 1) qh (sN S))) (c_X1_needs (kl K) G (ax 1) qh (sN S) k  (by omega)) gX5_left_X1_needs rfl rfl rfl ⟨rfl, by decide, by decide, rfl⟩ ⟨Nat.le_of_ble_eq_true rfl, Nat.le_of_ble_eq_true rfl⟩ ⟨Nat.zero_le _, Nat.zero_le _⟩ rfl (by decide) (ci := 0) 0 rfl rfl rfl rfl rfl (Nat.le_of_ble_eq_true rfl) dX5_left_21 (fun _ => rfl) (fun zu2 zk2 => ?_)
    refine j_top (needF (sN S) k) rfl ?_
    refine j_aload_n 24 cx 0 dX5_left_24 rfl ?_
    refine j_get 25 cx 0 0 (T := TX5) (v := .ref ((ax 1))) (fun _ h => List.mem_cons_of_mem _ (List.mem_append_left _ (List.mem_append_right _ (h)))) (List.mem_of_getElem? (i := 2) rfl) (ci := 4) rfl (by decide) rfl rfl rfl dX5_left_25 ?_
    refine j_get 28 cx 2 7 (T := TX1) (v := .ref (qh 4)) (fun _ h => List.mem_cons_of_mem _ (List.mem_append_right _ (h))) (List.mem_of_getElem? (i := 3) rfl) (ci := 0) rfl (by decide) rfl rfl rfl dX5_left_28 ?_
    refine j_iload_n 31 cx 1 dX5_left_31 rfl ?_
    refine j_iald 32 cx 6 k rfl rfl (by omega) (by decide) dX5_left_32 ?_
    refine j_isub 33 cx dX5_left_33 ?_
    refine j_max 34 cx (List.mem_of_getElem? (i := 4) rfl) (List.mem_of_getElem? (i := 5) rfl) (List.mem_of_getElem? (i := 6) rfl) (List.mem_of_getElem? (i := 7) rfl) (by decide) (Nat.le_of_ble_eq_true rfl) (Nat.zero_le _) (Nat.zero_le _) dX5_left_34 ?_
    refine j_top (mx0 ((needF (sN S) k) - ((sN S) 4 k))) rfl ?_
    have ze : (sp_left (nI k) S) = (mx0 ((needF (sN S) k) - ((sN S) 4 k)), S) := by unfold sp_left; simp [isP_eq hI, zc1, hkc]
    exact fin () _ _ _ _ dX5_left_37 rfl (by rw [ze] <;> rfl) (by rw [ze] <;> rfl) trivial
  · skip
    refine j_aload_n 8 cx 0 dX5_left_8 rfl ?_
    refine j_ldc 9 cx (v := -1000000001) (List.mem_of_getElem? (i := 1) rfl) dX5_left_9 ?_
    refine j_callV_i 11 cx 1 [0, 1] [.int (fcode 0)] (fun _ => wXO o ax (sP S) ++ ([((ax 7), .inl (gI G, 7, .inl (upd (sF S) 0 ((sF S) 0 + 1))))] ++ wN G (ax 1) qh (sN S))) (c_X5_finding (kl K) G o ax (sP S) (sF S) 0 (by decide)) gX5_left_X5_finding rfl rfl rfl ⟨rfl, by decide, by decide, rfl⟩ ⟨Nat.le_of_ble_eq_true rfl, Nat.le_of_ble_eq_true rfl⟩ ⟨Nat.zero_le _, Nat.zero_le _⟩ rfl (by decide) (ci := 4) 0 rfl rfl rfl rfl rfl (Nat.le_of_ble_eq_true rfl) dX5_left_11 (fun _ => rfl) (fun zu3 zk3 => ?_)
    refine j_top (fcode 0) rfl ?_
    have ze : (sp_left p S) = bad S 0 := by unfold sp_left; simp [isP_eq hI, zc1]
    exact fin () _ _ _ _ dX5_left_14 rfl (by rw [ze] <;> rfl) (by rw [ze] <;> rfl) trivial
set_option maxRecDepth 100000 in
set_option maxHeartbeats 4000000 in
theorem c_X5_set (l : Launch) (G : pG) (o : Nat) (ax : Nat → Nat) (qh qt qk : Nat → Nat) (S : St) (τ : Nu) (hI : Inv (sN S)) (hD : dyN (sN S) ≤ 9999) (p w v : Int32) : KI l G yX5_set wsX5_set ({ frames := 2, cells := 0, slots := 0, locals := 48 } : Room) [.ref o, .int p, .int w, .int v] (wXO o ax (sP S) ++ ([((ax 7), .inl (gI G, 7, .inl (sF S)))] ++ wN G (ax 1) qh (sN S))) (S := Unit) (fun _ => True) (fun u => (sp_set p w v S).1) (fun u => wXO o ax (sP S) ++ ([((ax 7), .inl (gI G, 7, .inl (sF (sp_set p w v S).2)))] ++ wN G (ax 1) qh (sN (sp_set p w v S).2))) := by
  refine ki_of [(0, .ref o), (1, .int p), (2, .int w), (3, .int v)] (own := RX5) (cc := cX5_set) (nL := 4) (by decide +kernel) rfl rfl (Nat.le_of_ble_eq_true rfl) rfl (fun _ => rfl) (fun K cx fin => ?_)
  refine j_aload_n 0 cx 0 dX5_set_0 rfl ?_
  refine j_iload_n 1 cx 1 dX5_set_1 rfl ?_
  refine j_callV_i 2 cx 1 [0, 2, 3, 4, 5, 6, 7, 8] [.int p] (fun _ => wXO o ax (sP S) ++ ([((ax 7), .inl (gI G, 7, .inl (sF S)))] ++ wN G (ax 1) qh (sN S))) (c_X5_hasPart (kl K) G o ax (sP S) qh (sN S) p hI) gX5_set_X5_hasPart rfl rfl rfl ⟨rfl, by decide, by decide, rfl⟩ ⟨Nat.le_of_ble_eq_true rfl, Nat.le_of_ble_eq_true rfl⟩ ⟨Nat.zero_le _, Nat.zero_le _⟩ rfl (by decide) (ci := 4) 0 rfl rfl rfl rfl rfl (Nat.le_of_ble_eq_true rfl) dX5_set_2 (fun _ => rfl) (fun zu1 zk1 => ?_)
  refine j_top (bI (inI p 0 (nI (szN (sN S)) - 1))) rfl ?_
  refine j_ifB_ne 5 cx 15 dX5_set_5 (by decide) (fun zc1 => ?_) (fun zc1 => ?_)
  · skip
    obtain ⟨k, hk, rfl⟩ := in_n (by have := hI.sz8; omega) zc1
    have h8 := hI.sz8
    have hkc : (nI k).toNatClampNeg = k := nI_clamp (by omega)
    refine j_iload_n 15 cx 2 dX5_set_15 rfl ?_
    by_cases zc2 : w = 1
    · skip
      refine j_tableIn 16 cx 48 (1) dX5_set_16 zc2 (by decide) (by decide) (by decide) rfl (by decide) ?_
      refine j_aload_n 48 cx 0 dX5_set_48 rfl ?_
      refine j_aload_n 49 cx 0 dX5_set_49 rfl ?_
      refine j_get 50 cx 0 0 (T := TX5) (v := .ref ((ax 1))) (fun _ h => List.mem_cons_of_mem _ (List.mem_append_left _ (List.mem_append_right _ (h)))) (List.mem_of_getElem? (i := 2) rfl) (ci := 4) rfl (by decide) rfl rfl rfl dX5_set_50 ?_
      refine j_get 53 cx 2 6 (T := TX1) (v := .ref (qh 3)) (fun _ h => List.mem_cons_of_mem _ (List.mem_append_right _ (h))) (List.mem_of_getElem? (i := 3) rfl) (ci := 0) rfl (by decide) rfl rfl rfl dX5_set_53 ?_
      refine j_iload_n 56 cx 1 dX5_set_56 rfl ?_
      refine j_iload_n 57 cx 3 dX5_set_57 rfl ?_
      refine j_iconst 58 cx 1 dX5_set_58 (by decide) ?_
      refine j_bipush 59 cx 99 dX5_set_59 (by decide) ?_
      rcases bcase (inI v 1 99) with zc3 | zc3
      · skip
        refine j_callV_i 61 cx 5 [0, 1, 5] [.ref (qh 3), .int (nI k), .int v, .int 1, .int 99] (fun _ => wXO o ax (sP S) ++ ([((ax 7), .inl (gI G, 7, .inl (sF S)))] ++ wN G (ax 1) qh (up2 (sN S) 3 k v))) (c_X5_exchange_t (kl K) G o ax (sP S) (sF S) (qh 3) ((sN S) 3) k v 1 99 (by omega) zc3) gX5_set_X5_exchange rfl rfl rfl ⟨rfl, by decide, by decide, rfl⟩ ⟨Nat.le_of_ble_eq_true rfl, Nat.le_of_ble_eq_true rfl⟩ ⟨Nat.zero_le _, Nat.zero_le _⟩ rfl (by decide) (ci := 4) 0 rfl rfl rfl rfl rfl (Nat.le_of_ble_eq_true rfl) dX5_set_61 (fun _ => rfl) (fun zu2 zk2 => ?_)
        refine j_top ((sN S) 3 k) rfl ?_
        have ze : (sp_set (nI k) w v S) = ((sN S) 3 k, stN S (up2 (sN S) 3 k v)) := by unfold sp_set; simp [isP_eq hI, zc1, hkc, zc2, zc3]
        exact fin () _ _ _ _ dX5_set_64 rfl (by rw [ze] <;> rfl) (by rw [ze] <;> rfl) trivial
      · skip
        refine j_callV_i 61 cx 5 [0, 1, 5] [.ref (qh 3), .int (nI k), .int v, .int 1, .int 99] (fun _ => wXO o ax (sP S) ++ ([((ax 7), .inl (gI G, 7, .inl (upd (sF S) 0 ((sF S) 0 + 1))))] ++ wN G (ax 1) qh (sN S))) (c_X5_exchange_f (kl K) G o ax (sP S) (sF S) (qh 3) ((sN S) 3) k v 1 99 (by omega) zc3) gX5_set_X5_exchange rfl rfl rfl ⟨rfl, by decide, by decide, rfl⟩ ⟨Nat.le_of_ble_eq_true rfl, Nat.le_of_ble_eq_true rfl⟩ ⟨Nat.zero_le _, Nat.zero_le _⟩ rfl (by decide) (ci := 4) 0 rfl rfl rfl rfl rfl (Nat.le_of_ble_eq_true rfl) dX5_set_61 (fun _ => rfl) (fun zu3 zk3 => ?_)
        refine j_top (fcode 0) rfl ?_
        have ze : (sp_set (nI k) w v S) = bad S 0 := by unfold sp_set; simp [isP_eq hI, zc1, hkc, zc2, zc3]
        exact fin () _ _ _ _ dX5_set_64 rfl (by rw [ze] <;> rfl) (by rw [ze] <;> rfl) trivial
    · skip
      by_cases zc4 : w = 2
      · skip
        refine j_tableIn 16 cx 65 (2) dX5_set_16 zc4 (by decide) (by decide) (by decide) rfl (by decide) ?_
        refine j_aload_n 65 cx 0 dX5_set_65 rfl ?_
        refine j_aload_n 66 cx 0 dX5_set_66 rfl ?_
        refine j_get 67 cx 0 0 (T := TX5) (v := .ref ((ax 1))) (fun _ h => List.mem_cons_of_mem _ (List.mem_append_left _ (List.mem_append_right _ (h)))) (List.mem_of_getElem? (i := 2) rfl) (ci := 4) rfl (by decide) rfl rfl rfl dX5_set_67 ?_
        refine j_get 70 cx 2 7 (T := TX1) (v := .ref (qh 4)) (fun _ h => List.mem_cons_of_mem _ (List.mem_append_right _ (h))) (List.mem_of_getElem? (i := 4) rfl) (ci := 0) rfl (by decide) rfl rfl rfl dX5_set_70 ?_
        refine j_iload_n 73 cx 1 dX5_set_73 rfl ?_
        refine j_iload_n 74 cx 3 dX5_set_74 rfl ?_
        refine j_iconst 75 cx 0 dX5_set_75 (by decide) ?_
        refine j_sipush 76 cx 9999 dX5_set_76 (by decide) ?_
        rcases bcase (inI v 0 9999) with zc5 | zc5
        · skip
          refine j_callV_i 79 cx 5 [0, 1, 6] [.ref (qh 4), .int (nI k), .int v, .int 0, .int 9999] (fun _ => wXO o ax (sP S) ++ ([((ax 7), .inl (gI G, 7, .inl (sF S)))] ++ wN G (ax 1) qh (up2 (sN S) 4 k v))) (c_X5_exchange_t (kl K) G o ax (sP S) (sF S) (qh 4) ((sN S) 4) k v 0 9999 (by omega) zc5) gX5_set_X5_exchange rfl rfl rfl ⟨rfl, by decide, by decide, rfl⟩ ⟨Nat.le_of_ble_eq_true rfl, Nat.le_of_ble_eq_true rfl⟩ ⟨Nat.zero_le _, Nat.zero_le _⟩ rfl (by decide) (ci := 4) 0 rfl rfl rfl rfl rfl (Nat.le_of_ble_eq_true rfl) dX5_set_79 (fun _ => rfl) (fun zu4 zk4 => ?_)
          refine j_top ((sN S) 4 k) rfl ?_
          have ze : (sp_set (nI k) w v S) = ((sN S) 4 k, stN S (up2 (sN S) 4 k v)) := by unfold sp_set; simp [isP_eq hI, zc1, hkc, zc2, zc4, zc5]
          exact fin () _ _ _ _ dX5_set_82 rfl (by rw [ze] <;> rfl) (by rw [ze] <;> rfl) trivial
        · skip
          refine j_callV_i 79 cx 5 [0, 1, 6] [.ref (qh 4), .int (nI k), .int v, .int 0, .int 9999] (fun _ => wXO o ax (sP S) ++ ([((ax 7), .inl (gI G, 7, .inl (upd (sF S) 0 ((sF S) 0 + 1))))] ++ wN G (ax 1) qh (sN S))) (c_X5_exchange_f (kl K) G o ax (sP S) (sF S) (qh 4) ((sN S) 4) k v 0 9999 (by omega) zc5) gX5_set_X5_exchange rfl rfl rfl ⟨rfl, by decide, by decide, rfl⟩ ⟨Nat.le_of_ble_eq_true rfl, Nat.le_of_ble_eq_true rfl⟩ ⟨Nat.zero_le _, Nat.zero_le _⟩ rfl (by decide) (ci := 4) 0 rfl rfl rfl rfl rfl (Nat.le_of_ble_eq_true rfl) dX5_set_79 (fun _ => rfl) (fun zu5 zk5 => ?_)
          refine j_top (fcode 0) rfl ?_
          have ze : (sp_set (nI k) w v S) = bad S 0 := by unfold sp_set; simp [isP_eq hI, zc1, hkc, zc2, zc4, zc5]
          exact fin () _ _ _ _ dX5_set_82 rfl (by rw [ze] <;> rfl) (by rw [ze] <;> rfl) trivial
      · skip
        by_cases zc6 : w = 3
        · skip
          refine j_tableIn 16 cx 83 (3) dX5_set_16 zc6 (by decide) (by decide) (by decide) rfl (by decide) ?_
          refine j_aload_n 83 cx 0 dX5_set_83 rfl ?_
          refine j_aload_n 84 cx 0 dX5_set_84 rfl ?_
          refine j_get 85 cx 0 0 (T := TX5) (v := .ref ((ax 1))) (fun _ h => List.mem_cons_of_mem _ (List.mem_append_left _ (List.mem_append_right _ (h)))) (List.mem_of_getElem? (i := 2) rfl) (ci := 4) rfl (by decide) rfl rfl rfl dX5_set_85 ?_
          refine j_get 88 cx 2 8 (T := TX1) (v := .ref (qh 5)) (fun _ h => List.mem_cons_of_mem _ (List.mem_append_right _ (h))) (List.mem_of_getElem? (i := 5) rfl) (ci := 0) rfl (by decide) rfl rfl rfl dX5_set_88 ?_
          refine j_iload_n 91 cx 1 dX5_set_91 rfl ?_
          refine j_iload_n 92 cx 3 dX5_set_92 rfl ?_
          refine j_iconst 93 cx 0 dX5_set_93 (by decide) ?_
          refine j_sipush 94 cx 9999 dX5_set_94 (by decide) ?_
          rcases bcase (inI v 0 9999) with zc7 | zc7
          · skip
            refine j_callV_i 97 cx 5 [0, 1, 7] [.ref (qh 5), .int (nI k), .int v, .int 0, .int 9999] (fun _ => wXO o ax (sP S) ++ ([((ax 7), .inl (gI G, 7, .inl (sF S)))] ++ wN G (ax 1) qh (up2 (sN S) 5 k v))) (c_X5_exchange_t (kl K) G o ax (sP S) (sF S) (qh 5) ((sN S) 5) k v 0 9999 (by omega) zc7) gX5_set_X5_exchange rfl rfl rfl ⟨rfl, by decide, by decide, rfl⟩ ⟨Nat.le_of_ble_eq_true rfl, Nat.le_of_ble_eq_true rfl⟩ ⟨Nat.zero_le _, Nat.zero_le _⟩ rfl (by decide) (ci := 4) 0 rfl rfl rfl rfl rfl (Nat.le_of_ble_eq_true rfl) dX5_set_97 (fun _ => rfl) (fun zu6 zk6 => ?_)
            refine j_top ((sN S) 5 k) rfl ?_
            have ze : (sp_set (nI k) w v S) = ((sN S) 5 k, stN S (up2 (sN S) 5 k v)) := by unfold sp_set; simp [isP_eq hI, zc1, hkc, zc2, zc4, zc6, zc7]
            exact fin () _ _ _ _ dX5_set_100 rfl (by rw [ze] <;> rfl) (by rw [ze] <;> rfl) trivial
          · skip
            refine j_callV_i 97 cx 5 [0, 1, 7] [.ref (qh 5), .int (nI k), .int v, .int 0, .int 9999] (fun _ => wXO o ax (sP S) ++ ([((ax 7), .inl (gI G, 7, .inl (upd (sF S) 0 ((sF S) 0 + 1))))] ++ wN G (ax 1) qh (sN S))) (c_X5_exchange_f (kl K) G o ax (sP S) (sF S) (qh 5) ((sN S) 5) k v 0 9999 (by omega) zc7) gX5_set_X5_exchange rfl rfl rfl ⟨rfl, by decide, by decide, rfl⟩ ⟨Nat.le_of_ble_eq_true rfl, Nat.le_of_ble_eq_true rfl⟩ ⟨Nat.zero_le _, Nat.zero_le _⟩ rfl (by decide) (ci := 4) 0 rfl rfl rfl rfl rfl (Nat.le_of_ble_eq_true rfl) dX5_set_97 (fun _ => rfl) (fun zu7 zk7 => ?_)
            refine j_top (fcode 0) rfl ?_
            have ze : (sp_set (nI k) w v S) = bad S 0 := by unfold sp_set; simp [isP_eq hI, zc1, hkc, zc2, zc4, zc6, zc7]
            exact fin () _ _ _ _ dX5_set_100 rfl (by rw [ze] <;> rfl) (by rw [ze] <;> rfl) trivial
        · skip
          by_cases zc8 : w = 4
          · skip
            refine j_tableIn 16 cx 101 (4) dX5_set_16 zc8 (by decide) (by decide) (by decide) rfl (by decide) ?_
            refine j_aload_n 101 cx 0 dX5_set_101 rfl ?_
            refine j_aload_n 102 cx 0 dX5_set_102 rfl ?_
            refine j_get 103 cx 0 0 (T := TX5) (v := .ref ((ax 1))) (fun _ h => List.mem_cons_of_mem _ (List.mem_append_left _ (List.mem_append_right _ (h)))) (List.mem_of_getElem? (i := 2) rfl) (ci := 4) rfl (by decide) rfl rfl rfl dX5_set_103 ?_
            refine j_get 106 cx 2 9 (T := TX1) (v := .ref (qh 6)) (fun _ h => List.mem_cons_of_mem _ (List.mem_append_right _ (h))) (List.mem_of_getElem? (i := 6) rfl) (ci := 0) rfl (by decide) rfl rfl rfl dX5_set_106 ?_
            refine j_iload_n 109 cx 1 dX5_set_109 rfl ?_
            refine j_iload_n 110 cx 3 dX5_set_110 rfl ?_
            refine j_iconst 111 cx 0 dX5_set_111 (by decide) ?_
            refine j_bipush 112 cx 99 dX5_set_112 (by decide) ?_
            rcases bcase (inI v 0 99) with zc9 | zc9
            · skip
              refine j_callV_i 114 cx 5 [0, 1, 8] [.ref (qh 6), .int (nI k), .int v, .int 0, .int 99] (fun _ => wXO o ax (sP S) ++ ([((ax 7), .inl (gI G, 7, .inl (sF S)))] ++ wN G (ax 1) qh (up2 (sN S) 6 k v))) (c_X5_exchange_t (kl K) G o ax (sP S) (sF S) (qh 6) ((sN S) 6) k v 0 99 (by omega) zc9) gX5_set_X5_exchange rfl rfl rfl ⟨rfl, by decide, by decide, rfl⟩ ⟨Nat.le_of_ble_eq_true rfl, Nat.le_of_ble_eq_true rfl⟩ ⟨Nat.zero_le _, Nat.zero_le _⟩ rfl (by decide) (ci := 4) 0 rfl rfl rfl rfl rfl (Nat.le_of_ble_eq_true rfl) dX5_set_114 (fun _ => rfl) (fun zu8 zk8 => ?_)
              refine j_top ((sN S) 6 k) rfl ?_
              have ze : (sp_set (nI k) w v S) = ((sN S) 6 k, stN S (up2 (sN S) 6 k v)) := by unfold sp_set; simp [isP_eq hI, zc1, hkc, zc2, zc4, zc6, zc8, zc9]
              exact fin () _ _ _ _ dX5_set_117 rfl (by rw [ze] <;> rfl) (by rw [ze] <;> rfl) trivial
            · skip
              refine j_callV_i 114 cx 5 [0, 1, 8] [.ref (qh 6), .int (nI k), .int v, .int 0, .int 99] (fun _ => wXO o ax (sP S) ++ ([((ax 7), .inl (gI G, 7, .inl (upd (sF S) 0 ((sF S) 0 + 1))))] ++ wN G (ax 1) qh (sN S))) (c_X5_exchange_f (kl K) G o ax (sP S) (sF S) (qh 6) ((sN S) 6) k v 0 99 (by omega) zc9) gX5_set_X5_exchange rfl rfl rfl ⟨rfl, by decide, by decide, rfl⟩ ⟨Nat.le_of_ble_eq_true rfl, Nat.le_of_ble_eq_true rfl⟩ ⟨Nat.zero_le _, Nat.zero_le _⟩ rfl (by decide) (ci := 4) 0 rfl rfl rfl rfl rfl (Nat.le_of_ble_eq_true rfl) dX5_set_114 (fun _ => rfl) (fun zu9 zk9 => ?_)
              refine j_top (fcode 0) rfl ?_
              have ze : (sp_set (nI k) w v S) = bad S 0 := by unfold sp_set; simp [isP_eq hI, zc1, hkc, zc2, zc4, zc6, zc8, zc9]
              exact fin () _ _ _ _ dX5_set_117 rfl (by rw [ze] <;> rfl) (by rw [ze] <;> rfl) trivial
          · skip
            refine j_tableOut 16 cx 118 dX5_set_16 (tb_out (fun z h1 h2 => by
                have hz : z = 1 ∨ z = 2 ∨ z = 3 ∨ z = 4 := by omega
                rcases hz with rfl | rfl | rfl | rfl
                · exact ne_ti zc2 (by decide)
                · exact ne_ti zc4 (by decide)
                · exact ne_ti zc6 (by decide)
                · exact ne_ti zc8 (by decide))) (by decide) ?_
            refine j_aload_n 118 cx 0 dX5_set_118 rfl ?_
            refine j_ldc 119 cx (v := -1000000001) (List.mem_of_getElem? (i := 1) rfl) dX5_set_119 ?_
            refine j_callV_i 121 cx 1 [0, 1] [.int (fcode 0)] (fun _ => wXO o ax (sP S) ++ ([((ax 7), .inl (gI G, 7, .inl (upd (sF S) 0 ((sF S) 0 + 1))))] ++ wN G (ax 1) qh (sN S))) (c_X5_finding (kl K) G o ax (sP S) (sF S) 0 (by decide)) gX5_set_X5_finding rfl rfl rfl ⟨rfl, by decide, by decide, rfl⟩ ⟨Nat.le_of_ble_eq_true rfl, Nat.le_of_ble_eq_true rfl⟩ ⟨Nat.zero_le _, Nat.zero_le _⟩ rfl (by decide) (ci := 4) 0 rfl rfl rfl rfl rfl (Nat.le_of_ble_eq_true rfl) dX5_set_121 (fun _ => rfl) (fun zu10 zk10 => ?_)
            refine j_top (fcode 0) rfl ?_
            have ze : (sp_set (nI k) w v S) = bad S 0 := by unfold sp_set; simp [isP_eq hI, zc1, hkc, zc2, zc4, zc6, zc8]
            exact fin () _ _ _ _ dX5_set_124 rfl (by rw [ze] <;> rfl) (by rw [ze] <;> rfl) trivial
  · skip
    refine j_aload_n 8 cx 0 dX5_set_8 rfl ?_
    refine j_ldc 9 cx (v := -1000000001) (List.mem_of_getElem? (i := 1) rfl) dX5_set_9 ?_
    refine j_callV_i 11 cx 1 [0, 1] [.int (fcode 0)] (fun _ => wXO o ax (sP S) ++ ([((ax 7), .inl (gI G, 7, .inl (upd (sF S) 0 ((sF S) 0 + 1))))] ++ wN G (ax 1) qh (sN S))) (c_X5_finding (kl K) G o ax (sP S) (sF S) 0 (by decide)) gX5_set_X5_finding rfl rfl rfl ⟨rfl, by decide, by decide, rfl⟩ ⟨Nat.le_of_ble_eq_true rfl, Nat.le_of_ble_eq_true rfl⟩ ⟨Nat.zero_le _, Nat.zero_le _⟩ rfl (by decide) (ci := 4) 0 rfl rfl rfl rfl rfl (Nat.le_of_ble_eq_true rfl) dX5_set_11 (fun _ => rfl) (fun zu11 zk11 => ?_)
    refine j_top (fcode 0) rfl ?_
    have ze : (sp_set p w v S) = bad S 0 := by unfold sp_set; simp [isP_eq hI, zc1]
    exact fin () _ _ _ _ dX5_set_14 rfl (by rw [ze] <;> rfl) (by rw [ze] <;> rfl) trivial
set_option maxRecDepth 100000 in
set_option maxHeartbeats 4000000 in
theorem c_X5_turn (l : Launch) (G : pG) (o : Nat) (ax : Nat → Nat) (qh qt qk : Nat → Nat) (S : St) (τ : Nu) (hI : Inv (sN S)) (hD : dyN (sN S) ≤ 9999) (p k0 : Int32) : KI l G yX5_turn wsX5_turn ({ frames := 2, cells := 0, slots := 0, locals := 48 } : Room) [.ref o, .int p, .int k0] (wXO o ax (sP S) ++ ([((ax 7), .inl (gI G, 7, .inl (sF S)))] ++ wN G (ax 1) qh (sN S))) (S := Unit) (fun _ => True) (fun u => (sp_turn p k0 S).1) (fun u => wXO o ax (sP S) ++ ([((ax 7), .inl (gI G, 7, .inl (sF (sp_turn p k0 S).2)))] ++ wN G (ax 1) qh (sN (sp_turn p k0 S).2))) := by
  refine ki_of [(0, .ref o), (1, .int p), (2, .int k0)] (own := RX5) (cc := cX5_turn) (nL := 3) (by decide +kernel) rfl rfl (Nat.le_of_ble_eq_true rfl) rfl (fun _ => rfl) (fun K cx fin => ?_)
  refine j_aload_n 0 cx 0 dX5_turn_0 rfl ?_
  refine j_iload_n 1 cx 1 dX5_turn_1 rfl ?_
  refine j_callV_i 2 cx 1 [0, 2, 3, 4, 5, 6, 7, 8] [.int p] (fun _ => wXO o ax (sP S) ++ ([((ax 7), .inl (gI G, 7, .inl (sF S)))] ++ wN G (ax 1) qh (sN S))) (c_X5_hasPart (kl K) G o ax (sP S) qh (sN S) p hI) gX5_turn_X5_hasPart rfl rfl rfl ⟨rfl, by decide, by decide, rfl⟩ ⟨Nat.le_of_ble_eq_true rfl, Nat.le_of_ble_eq_true rfl⟩ ⟨Nat.zero_le _, Nat.zero_le _⟩ rfl (by decide) (ci := 4) 0 rfl rfl rfl rfl rfl (Nat.le_of_ble_eq_true rfl) dX5_turn_2 (fun _ => rfl) (fun zu1 zk1 => ?_)
  refine j_top (bI (inI p 0 (nI (szN (sN S)) - 1))) rfl ?_
  refine j_ifB_ne 5 cx 15 dX5_turn_5 (by decide) (fun zc1 => ?_) (fun zc1 => ?_)
  · skip
    obtain ⟨k, hk, rfl⟩ := in_n (by have := hI.sz8; omega) zc1
    have h8 := hI.sz8
    have hkc : (nI k).toNatClampNeg = k := nI_clamp (by omega)
    refine j_aload_n 15 cx 0 dX5_turn_15 rfl ?_
    refine j_aload_n 16 cx 0 dX5_turn_16 rfl ?_
    refine j_get 17 cx 0 0 (T := TX5) (v := .ref ((ax 1))) (fun _ h => List.mem_cons_of_mem _ (List.mem_append_left _ (List.mem_append_right _ (h)))) (List.mem_of_getElem? (i := 2) rfl) (ci := 4) rfl (by decide) rfl rfl rfl dX5_turn_17 ?_
    refine j_get 20 cx 2 5 (T := TX1) (v := .ref (qh 2)) (fun _ h => List.mem_cons_of_mem _ (List.mem_append_right _ (h))) (List.mem_of_getElem? (i := 3) rfl) (ci := 0) rfl (by decide) rfl rfl rfl dX5_turn_20 ?_
    refine j_iload_n 23 cx 1 dX5_turn_23 rfl ?_
    refine j_iload_n 24 cx 2 dX5_turn_24 rfl ?_
    refine j_iconst 25 cx 0 dX5_turn_25 (by decide) ?_
    refine j_iconst 26 cx 5 dX5_turn_26 (by decide) ?_
    rcases bcase (inI k0 0 5) with zc2 | zc2
    · skip
      refine j_callV_i 27 cx 5 [0, 1, 4] [.ref (qh 2), .int (nI k), .int k0, .int 0, .int 5] (fun _ => wXO o ax (sP S) ++ ([((ax 7), .inl (gI G, 7, .inl (sF S)))] ++ wN G (ax 1) qh (up2 (sN S) 2 k k0))) (c_X5_exchange_t (kl K) G o ax (sP S) (sF S) (qh 2) ((sN S) 2) k k0 0 5 (by omega) zc2) gX5_turn_X5_exchange rfl rfl rfl ⟨rfl, by decide, by decide, rfl⟩ ⟨Nat.le_of_ble_eq_true rfl, Nat.le_of_ble_eq_true rfl⟩ ⟨Nat.zero_le _, Nat.zero_le _⟩ rfl (by decide) (ci := 4) 0 rfl rfl rfl rfl rfl (Nat.le_of_ble_eq_true rfl) dX5_turn_27 (fun _ => rfl) (fun zu2 zk2 => ?_)
      refine j_top ((sN S) 2 k) rfl ?_
      have ze : (sp_turn (nI k) k0 S) = ((sN S) 2 k, stN S (up2 (sN S) 2 k k0)) := by unfold sp_turn; simp [isP_eq hI, zc1, hkc, zc2]
      exact fin () _ _ _ _ dX5_turn_30 rfl (by rw [ze] <;> rfl) (by rw [ze] <;> rfl) trivial
    · skip
      refine j_callV_i 27 cx 5 [0, 1, 4] [.ref (qh 2), .int (nI k), .int k0, .int 0, .int 5] (fun _ => wXO o ax (sP S) ++ ([((ax 7), .inl (gI G, 7, .inl (upd (sF S) 0 ((sF S) 0 + 1))))] ++ wN G (ax 1) qh (sN S))) (c_X5_exchange_f (kl K) G o ax (sP S) (sF S) (qh 2) ((sN S) 2) k k0 0 5 (by omega) zc2) gX5_turn_X5_exchange rfl rfl rfl ⟨rfl, by decide, by decide, rfl⟩ ⟨Nat.le_of_ble_eq_true rfl, Nat.le_of_ble_eq_true rfl⟩ ⟨Nat.zero_le _, Nat.zero_le _⟩ rfl (by decide) (ci := 4) 0 rfl rfl rfl rfl rfl (Nat.le_of_ble_eq_true rfl) dX5_turn_27 (fun _ => rfl) (fun zu3 zk3 => ?_)
      refine j_top (fcode 0) rfl ?_
      have ze : (sp_turn (nI k) k0 S) = bad S 0 := by unfold sp_turn; simp [isP_eq hI, zc1, hkc, zc2]
      exact fin () _ _ _ _ dX5_turn_30 rfl (by rw [ze] <;> rfl) (by rw [ze] <;> rfl) trivial
  · skip
    refine j_aload_n 8 cx 0 dX5_turn_8 rfl ?_
    refine j_ldc 9 cx (v := -1000000001) (List.mem_of_getElem? (i := 1) rfl) dX5_turn_9 ?_
    refine j_callV_i 11 cx 1 [0, 1] [.int (fcode 0)] (fun _ => wXO o ax (sP S) ++ ([((ax 7), .inl (gI G, 7, .inl (upd (sF S) 0 ((sF S) 0 + 1))))] ++ wN G (ax 1) qh (sN S))) (c_X5_finding (kl K) G o ax (sP S) (sF S) 0 (by decide)) gX5_turn_X5_finding rfl rfl rfl ⟨rfl, by decide, by decide, rfl⟩ ⟨Nat.le_of_ble_eq_true rfl, Nat.le_of_ble_eq_true rfl⟩ ⟨Nat.zero_le _, Nat.zero_le _⟩ rfl (by decide) (ci := 4) 0 rfl rfl rfl rfl rfl (Nat.le_of_ble_eq_true rfl) dX5_turn_11 (fun _ => rfl) (fun zu4 zk4 => ?_)
    refine j_top (fcode 0) rfl ?_
    have ze : (sp_turn p k0 S) = bad S 0 := by unfold sp_turn; simp [isP_eq hI, zc1]
    exact fin () _ _ _ _ dX5_turn_14 rfl (by rw [ze] <;> rfl) (by rw [ze] <;> rfl) trivial
