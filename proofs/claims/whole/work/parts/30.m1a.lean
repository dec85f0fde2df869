set_option maxRecDepth 100000 in
set_option maxHeartbeats 4000000 in
theorem c_X6_in (l : Launch) (G : pG) (v : Int64) (lo hi : Int32) : KI l G yX6_in wsX6_in ({ frames := 0, cells := 0, slots := 0, locals := 0 } : Room) [.long (v), .int lo, .int hi] (([] : va_W)) (S := Unit) (fun _ => True) (fun u => bI (inL v lo hi)) (fun u => ([] : va_W)) := by
  refine ki_of [(0, .long (v)), (2, .int lo), (3, .int hi)] (own := RX6) (cc := cX6_in) (nL := 4) (by decide +kernel) rfl rfl (Nat.le_of_ble_eq_true rfl) rfl (fun _ => rfl) (fun K cx fin => ?_)
  refine j_lload_n 0 cx 0 dX6_in_0 rfl ?_
  refine j_iload_n 1 cx 1 dX6_in_1 rfl ?_
  refine j_i2l 2 cx dX6_in_2 ?_
  refine j_lcmp 3 cx dX6_in_3 ?_
  refine j_if_lt 4 cx 18 dX6_in_4 (by decide) (fun zc1 => ?_) (fun zc1 => ?_)
  · skip
    refine j_iconst 18 cx 0 dX6_in_18 (by decide) ?_
    exact fin () _ _ _ _ dX6_in_19 rfl (by rw [show inL v lo hi = false from decide_eq_false (fun h => absurd ((lg_cmp_lt _ _).mp zc1) (Int64.not_lt.mpr h.1))]; rfl) rfl trivial
  · skip
    refine j_lload_n 7 cx 0 dX6_in_7 rfl ?_
    refine j_iload_n 8 cx 2 dX6_in_8 rfl ?_
    refine j_i2l 9 cx dX6_in_9 ?_
    refine j_lcmp 10 cx dX6_in_10 ?_
    refine j_if_gt 11 cx 18 dX6_in_11 (by decide) (fun zc2 => ?_) (fun zc2 => ?_)
    · skip
      refine j_iconst 18 cx 0 dX6_in_18 (by decide) ?_
      exact fin () _ _ _ _ dX6_in_19 rfl (by rw [show inL v lo hi = false from decide_eq_false (fun h => absurd ((lg_cmp_gt _ _).mp zc2) (Int64.not_lt.mpr h.2))]; rfl) rfl trivial
    · skip
      refine j_iconst 14 cx 1 dX6_in_14 (by decide) ?_
      refine j_goto 15 cx 19 dX6_in_15 (by decide) ?_
      exact fin () _ _ _ _ dX6_in_19 rfl (by rw [show inL v lo hi = true from decide_eq_true ⟨Int64.not_lt.mp (fun h => zc1 ((lg_cmp_lt _ _).mpr h)), Int64.not_lt.mp (fun h => zc2 ((lg_cmp_gt _ _).mpr h))⟩]; rfl) rfl trivial
set_option maxRecDepth 100000 in
set_option maxHeartbeats 4000000 in
theorem c_X6_held (l : Launch) (G : pG) (v lo hi : Int32) : KI l G yX6_held wsX6_held ({ frames := 0, cells := 0, slots := 0, locals := 0 } : Room) [.int v, .int lo, .int hi] (([] : va_W)) (S := Unit) (fun _ => True) (fun u => hd v lo hi) (fun u => ([] : va_W)) := by
  refine ki_of [(0, .int v), (1, .int lo), (2, .int hi)] (own := RX6) (cc := cX6_held) (nL := 3) (by decide +kernel) rfl rfl (Nat.le_of_ble_eq_true rfl) rfl (fun _ => rfl) (fun K cx fin => ?_)
  refine j_iload_n 0 cx 0 dX6_held_0 rfl ?_
  refine j_iload_n 1 cx 1 dX6_held_1 rfl ?_
  refine j_icmp_ge 2 cx 9 dX6_held_2 (by decide) (fun zc1 => ?_) (fun zc1 => ?_)
  · skip
    refine j_iload_n 9 cx 0 dX6_held_9 rfl ?_
    refine j_iload_n 10 cx 2 dX6_held_10 rfl ?_
    refine j_icmp_le 11 cx 18 dX6_held_11 (by decide) (fun zc2 => ?_) (fun zc2 => ?_)
    · skip
      refine j_iload_n 18 cx 0 dX6_held_18 rfl ?_
      exact fin () _ _ _ _ dX6_held_19 rfl (by simp [hd, Int32.not_lt.mpr zc1, Int32.not_lt.mpr zc2]) rfl trivial
    · skip
      refine j_iload_n 14 cx 2 dX6_held_14 rfl ?_
      refine j_goto 15 cx 19 dX6_held_15 (by decide) ?_
      exact fin () _ _ _ _ dX6_held_19 rfl (by simp [hd, Int32.not_lt.mpr zc1, Int32.not_le.mp zc2]) rfl trivial
  · skip
    refine j_iload_n 5 cx 1 dX6_held_5 rfl ?_
    refine j_goto 6 cx 19 dX6_held_6 (by decide) ?_
    exact fin () _ _ _ _ dX6_held_19 rfl (by simp [hd, Int32.not_le.mp zc1]) rfl trivial
set_option maxRecDepth 100000 in
set_option maxHeartbeats 4000000 in
theorem c_X6_it (l : Launch) (G : pG) (o : Nat) (am : Nat → Nat) (ik : Bool) (la tn tk be an va : Int32) (bd : Bool) (σ : Nu) (p w : Nat) (hp : p < 8) (hw : w < 5) : KI l G yX6_it wsX6_it ({ frames := 0, cells := 0, slots := 0, locals := 0 } : Room) [.ref o, .int (nI p), .int (nI w)] (wMO o am ik la tn tk be an va bd ++ [((am 0), .inl (gI G, 51, .inl (mm σ)))]) (S := Unit) (fun _ => True) (fun u => σ (2 + w) p) (fun u => wMO o am ik la tn tk be an va bd ++ [((am 0), .inl (gI G, 51, .inl (mm σ)))]) := by
  refine ki_of [(0, .ref o), (1, .int (nI p)), (2, .int (nI w))] (own := RX6) (cc := cX6_it) (nL := 3) (by decide +kernel) rfl rfl (Nat.le_of_ble_eq_true rfl) rfl (fun _ => rfl) (fun K cx fin => ?_)
  refine j_aload_n 0 cx 0 dX6_it_0 rfl ?_
  refine j_get 1 cx 0 0 (T := TX6) (v := .ref ((am 0))) (fun _ h => List.mem_cons_of_mem _ (List.mem_append_right _ (h))) (List.mem_of_getElem? (i := 1) rfl) (ci := 5) rfl (by decide) rfl rfl rfl dX6_it_1 ?_
  refine j_bipush 4 cx 11 dX6_it_4 (by decide) ?_
  refine j_iconst 6 cx 5 dX6_it_6 (by decide) ?_
  refine j_iload_n 7 cx 1 dX6_it_7 rfl ?_
  refine j_imul 8 cx dX6_it_8 ?_
  refine j_top (nI (5 * p)) (pk_mul 5 p) ?_
  refine j_iadd 9 cx dX6_it_9 ?_
  refine j_top (nI (11 + 5 * p)) (nI_add 11 (5 * p)) ?_
  refine j_iload_n 10 cx 2 dX6_it_10 rfl ?_
  refine j_iadd 11 cx dX6_it_11 ?_
  refine j_top (nI (11 + 5 * p + w)) (nI_add (11 + 5 * p) w) ?_
  refine j_iald 12 cx 1 (11 + 5 * p + w) rfl rfl (by omega) (by decide) dX6_it_12 ?_
  refine j_top (σ (2 + w) p) (mm_it _ p (by omega)) ?_
  exact fin () _ _ _ _ dX6_it_13 rfl rfl rfl trivial
set_option maxRecDepth 100000 in
set_option maxHeartbeats 4000000 in
theorem c_X6_put (l : Launch) (G : pG) (o : Nat) (am : Nat → Nat) (ik : Bool) (la tn tk be an va : Int32) (bd : Bool) (σ : Nu) (p w : Nat) (v : Int32) (hp : p < 8) (hw : w < 5) : KV l G yX6_put wsX6_put ({ frames := 0, cells := 0, slots := 0, locals := 0 } : Room) [.ref o, .int (nI p), .int (nI w), .int v] (wMO o am ik la tn tk be an va bd ++ [((am 0), .inl (gI G, 51, .inl (mm σ)))]) (S := Unit) (fun _ => True) (fun u => wMO o am ik la tn tk be an va bd ++ [((am 0), .inl (gI G, 51, .inl (mm (up2 σ (2 + w) p v))))]) := by
  refine kv_of [(0, .ref o), (1, .int (nI p)), (2, .int (nI w)), (3, .int v)] (own := RX6) (cc := cX6_put) (nL := 4) (by decide +kernel) rfl rfl (Nat.le_of_ble_eq_true rfl) rfl (fun _ => rfl) (fun K cx fin => ?_)
  refine j_aload_n 0 cx 0 dX6_put_0 rfl ?_
  refine j_get 1 cx 0 0 (T := TX6) (v := .ref ((am 0))) (fun _ h => List.mem_cons_of_mem _ (List.mem_append_right _ (h))) (List.mem_of_getElem? (i := 1) rfl) (ci := 5) rfl (by decide) rfl rfl rfl dX6_put_1 ?_
  refine j_bipush 4 cx 11 dX6_put_4 (by decide) ?_
  refine j_iconst 6 cx 5 dX6_put_6 (by decide) ?_
  refine j_iload_n 7 cx 1 dX6_put_7 rfl ?_
  refine j_imul 8 cx dX6_put_8 ?_
  refine j_top (nI (5 * p)) (pk_mul 5 p) ?_
  refine j_iadd 9 cx dX6_put_9 ?_
  refine j_top (nI (11 + 5 * p)) (nI_add 11 (5 * p)) ?_
  refine j_iload_n 10 cx 2 dX6_put_10 rfl ?_
  refine j_iadd 11 cx dX6_put_11 ?_
  refine j_top (nI (11 + 5 * p + w)) (nI_add (11 + 5 * p) w) ?_
  refine j_iload_n 12 cx 3 dX6_put_12 rfl ?_
  refine j_iast 13 cx 1 (11 + 5 * p + w) (wMO o am ik la tn tk be an va bd ++ [((am 0), .inl (gI G, 51, .inl (upd (mm σ) (11 + 5 * p + w) v)))]) rfl rfl (by omega) (by decide) rfl dX6_put_13 ?_
  refine j_ws (wMO o am ik la tn tk be an va bd ++ [((am 0), .inl (gI G, 51, .inl (mm (up2 σ (2 + w) p v))))]) (congrArg (fun zf : Nat → Int32 => wMO o am ik la tn tk be an va bd ++ [((am 0), .inl (gI G, 51, .inl zf))]) (mm_uit _ p _ (by omega))) ?_
  exact fin () _ _ _ dX6_put_14 rfl trivial
set_option maxRecDepth 100000 in
set_option maxHeartbeats 4000000 in
theorem c_X6_becomes (l : Launch) (G : pG) (o : Nat) (am : Nat → Nat) (ik : Bool) (la tn tk be an va : Int32) (bd : Bool) (f : Nat → Int32) (i : Nat) (v : Int32) (hi : i < 51) : KI l G yX6_becomes wsX6_becomes ({ frames := 0, cells := 0, slots := 0, locals := 0 } : Room) [.ref o, .int (nI i), .int v] (wMO o am ik la tn tk be an va bd ++ [((am 0), .inl (gI G, 51, .inl f))]) (S := Unit) (fun _ => True) (fun u => f i) (fun u => wMO o am ik la tn tk be an va bd ++ [((am 0), .inl (gI G, 51, .inl (upd f i v)))]) := by
  refine ki_of [(0, .ref o), (1, .int (nI i)), (2, .int v)] (own := RX6) (cc := cX6_becomes) (nL := 4) (by decide +kernel) rfl rfl (Nat.le_of_ble_eq_true rfl) rfl (fun _ => rfl) (fun K cx fin => ?_)
  refine j_aload_n 0 cx 0 dX6_becomes_0 rfl ?_
  refine j_get 1 cx 0 0 (T := TX6) (v := .ref ((am 0))) (fun _ h => List.mem_cons_of_mem _ (List.mem_append_right _ (h))) (List.mem_of_getElem? (i := 1) rfl) (ci := 5) rfl (by decide) rfl rfl rfl dX6_becomes_1 ?_
  refine j_iload_n 4 cx 1 dX6_becomes_4 rfl ?_
  refine j_iald 5 cx 1 i rfl rfl (by omega) (by decide) dX6_becomes_5 ?_
  refine j_istore_n 6 cx [(3, .int (f i)), (0, .ref o), (1, .int (nI i)), (2, .int v)] dX6_becomes_6 (by decide) rfl ?_
  refine j_aload_n 7 cx 1 dX6_becomes_7 rfl ?_
  refine j_get 8 cx 0 0 (T := TX6) (v := .ref ((am 0))) (fun _ h => List.mem_cons_of_mem _ (List.mem_append_right _ (h))) (List.mem_of_getElem? (i := 1) rfl) (ci := 5) rfl (by decide) rfl rfl rfl dX6_becomes_8 ?_
  refine j_iload_n 11 cx 2 dX6_becomes_11 rfl ?_
  refine j_iload_n 12 cx 3 dX6_becomes_12 rfl ?_
  refine j_iast 13 cx 1 i (wMO o am ik la tn tk be an va bd ++ [((am 0), .inl (gI G, 51, .inl (upd f i v)))]) rfl rfl (by omega) (by decide) rfl dX6_becomes_13 ?_
  refine j_iload_n 14 cx 0 dX6_becomes_14 rfl ?_
  exact fin () _ _ _ _ dX6_becomes_15 rfl rfl rfl trivial
set_option maxRecDepth 100000 in
set_option maxHeartbeats 4000000 in
theorem c_X6_isHoliday (l : Launch) (G : pG) (o : Nat) (am : Nat → Nat) (ik : Bool) (la tn tk be an va : Int32) (bd : Bool) (σ : Nu) (hd : σ 0 0 = nI (dyN σ)) (hd2 : dyN σ < 1000000) : KI l G yX6_isHoliday wsX6_isHoliday ({ frames := 0, cells := 0, slots := 0, locals := 0 } : Room) [.ref o] (wMO o am ik la tn tk be an va bd ++ [((am 0), .inl (gI G, 51, .inl (mm σ)))]) (S := Unit) (fun _ => True) (fun u => bI (hol σ)) (fun u => wMO o am ik la tn tk be an va bd ++ [((am 0), .inl (gI G, 51, .inl (mm σ)))]) := by
  refine ki_of [(0, .ref o)] (own := RX6) (cc := cX6_isHoliday) (nL := 1) (by decide +kernel) rfl rfl (Nat.le_of_ble_eq_true rfl) rfl (fun _ => rfl) (fun K cx fin => ?_)
  refine j_aload_n 0 cx 0 dX6_isHoliday_0 rfl ?_
  refine j_get 1 cx 0 0 (T := TX6) (v := .ref ((am 0))) (fun _ h => List.mem_cons_of_mem _ (List.mem_append_right _ (h))) (List.mem_of_getElem? (i := 1) rfl) (ci := 5) rfl (by decide) rfl rfl rfl dX6_isHoliday_1 ?_
  refine j_iconst 4 cx 4 dX6_isHoliday_4 (by decide) ?_
  refine j_aload_n 5 cx 0 dX6_isHoliday_5 rfl ?_
  refine j_get 6 cx 0 0 (T := TX6) (v := .ref ((am 0))) (fun _ h => List.mem_cons_of_mem _ (List.mem_append_right _ (h))) (List.mem_of_getElem? (i := 1) rfl) (ci := 5) rfl (by decide) rfl rfl rfl dX6_isHoliday_6 ?_
  refine j_iconst 9 cx 0 dX6_isHoliday_9 (by decide) ?_
  refine j_iald 10 cx 1 0 rfl rfl (by omega) (by decide) dX6_isHoliday_10 ?_
  refine j_top (σ 0 0) rfl ?_
  refine j_top (nI (dyN σ)) hd ?_
  refine j_bipush 11 cx 7 dX6_isHoliday_11 (by decide) ?_
  refine j_irem 13 cx dX6_isHoliday_13 (by decide) ?_
  refine j_top (nI (dyN σ % 7)) (pk_rem (a := dyN σ) (d := 7) (by omega) (by decide) (by decide)) ?_
  refine j_iadd 14 cx dX6_isHoliday_14 ?_
  refine j_top (nI (4 + dyN σ % 7)) (nI_add 4 (dyN σ % 7)) ?_
  refine j_iald 15 cx 1 (4 + dyN σ % 7) rfl rfl (by omega) (by decide) dX6_isHoliday_15 ?_
  refine j_top (σ 1 (dyN σ % 7)) (mm_fr _ (by omega)) ?_
  refine j_iconst 16 cx 1 dX6_isHoliday_16 (by decide) ?_
  refine j_icmp_ne 17 cx 24 dX6_isHoliday_17 (by decide) (fun zc1 => ?_) (fun zc1 => ?_)
  · skip
    refine j_iconst 24 cx 0 dX6_isHoliday_24 (by decide) ?_
    exact fin () _ _ _ _ dX6_isHoliday_25 rfl (by simp [bI, hol, zc1]) rfl trivial
  · skip
    refine j_iconst 20 cx 1 dX6_isHoliday_20 (by decide) ?_
    refine j_goto 21 cx 25 dX6_isHoliday_21 (by decide) ?_
    exact fin () _ _ _ _ dX6_isHoliday_25 rfl (by simp [bI, hol, zc1]) rfl trivial
set_option maxRecDepth 100000 in
set_option maxHeartbeats 4000000 in
theorem c_X6_needs (l : Launch) (G : pG) (o : Nat) (am : Nat → Nat) (ik : Bool) (la tn tk be an va : Int32) (bd : Bool) (σ : Nu) (p : Nat) (hp : p < 8) : KI l G yX6_needs wsX6_needs ({ frames := 1, cells := 0, slots := 0, locals := 22 } : Room) [.ref o, .int (nI p)] (wMO o am ik la tn tk be an va bd ++ [((am 0), .inl (gI G, 51, .inl (mm σ)))]) (S := Unit) (fun _ => True) (fun u => needF σ p) (fun u => wMO o am ik la tn tk be an va bd ++ [((am 0), .inl (gI G, 51, .inl (mm σ)))]) := by
  refine ki_of [(0, .ref o), (1, .int (nI p))] (own := RX6) (cc := cX6_needs) (nL := 3) (by decide +kernel) rfl rfl (Nat.le_of_ble_eq_true rfl) rfl (fun _ => rfl) (fun K cx fin => ?_)
  refine j_aload_n 0 cx 0 dX6_needs_0 rfl ?_
  refine j_iload_n 1 cx 1 dX6_needs_1 rfl ?_
  refine j_iconst 2 cx 1 dX6_needs_2 (by decide) ?_
  refine j_callV_i 3 cx 2 [0, 1] [.int (nI p), .int 1] (fun _ => wMO o am ik la tn tk be an va bd ++ [((am 0), .inl (gI G, 51, .inl (mm σ)))]) (c_X6_it (kl K) G o am ik la tn tk be an va bd σ p 1 (by omega) (by omega) ) gX6_needs_X6_it rfl rfl rfl ⟨rfl, by decide, by decide, rfl⟩ ⟨Nat.le_of_ble_eq_true rfl, Nat.le_of_ble_eq_true rfl⟩ ⟨Nat.zero_le _, Nat.zero_le _⟩ rfl (by decide) (ci := 5) 0 rfl rfl rfl rfl rfl (Nat.le_of_ble_eq_true rfl) dX6_needs_3 (fun _ => rfl) (fun zu1 zk1 => ?_)
  refine j_top (σ 3 p) rfl ?_
  refine j_istore_n 6 cx [(2, .int (σ 3 p)), (0, .ref o), (1, .int (nI p))] dX6_needs_6 (by decide) rfl ?_
  refine j_aload_n 7 cx 1 dX6_needs_7 rfl ?_
  refine j_iload_n 8 cx 2 dX6_needs_8 rfl ?_
  refine j_iconst 9 cx 0 dX6_needs_9 (by decide) ?_
  refine j_callV_i 10 cx 2 [0, 1] [.int (nI p), .int 0] (fun _ => wMO o am ik la tn tk be an va bd ++ [((am 0), .inl (gI G, 51, .inl (mm σ)))]) (c_X6_it (kl K) G o am ik la tn tk be an va bd σ p 0 (by omega) (by omega) ) gX6_needs_X6_it rfl rfl rfl ⟨rfl, by decide, by decide, rfl⟩ ⟨Nat.le_of_ble_eq_true rfl, Nat.le_of_ble_eq_true rfl⟩ ⟨Nat.zero_le _, Nat.zero_le _⟩ rfl (by decide) (ci := 5) 0 rfl rfl rfl rfl rfl (Nat.le_of_ble_eq_true rfl) dX6_needs_10 (fun _ => rfl) (fun zu2 zk2 => ?_)
  refine j_top (σ 2 p) rfl ?_
  by_cases zc1 : σ 2 p = 1
  · skip
    refine j_tableIn 13 cx 48 (1) dX6_needs_13 zc1 (by decide) (by decide) (by decide) rfl (by decide) ?_
    refine j_iconst 48 cx 2 dX6_needs_48 (by decide) ?_
    refine j_iload_n 49 cx 0 dX6_needs_49 rfl ?_
    refine j_imul 50 cx dX6_needs_50 ?_
    exact fin () _ _ _ _ dX6_needs_51 rfl (by simp [needF, kNeeds, zc1]) rfl trivial
  · skip
    by_cases zc2 : σ 2 p = 2
    · skip
      refine j_tableIn 13 cx 66 (2) dX6_needs_13 zc2 (by decide) (by decide) (by decide) rfl (by decide) ?_
      refine j_iload_n 66 cx 0 dX6_needs_66 rfl ?_
      exact fin () _ _ _ _ dX6_needs_67 rfl (by simp [needF, kNeeds, zc1, zc2]) rfl trivial
    · skip
      by_cases zc3 : σ 2 p = 3
      · skip
        refine j_tableIn 13 cx 52 (3) dX6_needs_13 zc3 (by decide) (by decide) (by decide) rfl (by decide) ?_
        refine j_iconst 52 cx 1 dX6_needs_52 (by decide) ?_
        exact fin () _ _ _ _ dX6_needs_53 rfl (by simp [needF, kNeeds, zc1, zc2, zc3]) rfl trivial
      · skip
        by_cases zc4 : σ 2 p = 4
        · skip
          refine j_tableIn 13 cx 54 (4) dX6_needs_13 zc4 (by decide) (by decide) (by decide) rfl (by decide) ?_
          refine j_iconst 54 cx 2 dX6_needs_54 (by decide) ?_
          refine j_iload_n 55 cx 0 dX6_needs_55 rfl ?_
          refine j_imul 56 cx dX6_needs_56 ?_
          refine j_iconst 57 cx 5 dX6_needs_57 (by decide) ?_
          refine j_iadd 58 cx dX6_needs_58 ?_
          exact fin () _ _ _ _ dX6_needs_59 rfl (by simp [needF, kNeeds, zc1, zc2, zc3, zc4]) rfl trivial
        · skip
          by_cases zc5 : σ 2 p = 5
          · skip
            refine j_tableIn 13 cx 60 (5) dX6_needs_13 zc5 (by decide) (by decide) (by decide) rfl (by decide) ?_
            refine j_iload_n 60 cx 0 dX6_needs_60 rfl ?_
            refine j_iload_n 61 cx 0 dX6_needs_61 rfl ?_
            refine j_iconst 62 cx 2 dX6_needs_62 (by decide) ?_
            refine j_idiv 63 cx dX6_needs_63 (by decide) ?_
            refine j_iadd 64 cx dX6_needs_64 ?_
            exact fin () _ _ _ _ dX6_needs_65 rfl (by simp [needF, kNeeds, zc1, zc2, zc3, zc4, zc5]) rfl trivial
          · skip
            refine j_tableOut 13 cx 66 dX6_needs_13 (tb_out (fun z h1 h2 => by
                have hz : z = 1 ∨ z = 2 ∨ z = 3 ∨ z = 4 ∨ z = 5 := by omega
                rcases hz with rfl | rfl | rfl | rfl | rfl
                · exact ne_ti zc1 (by decide)
                · exact ne_ti zc2 (by decide)
                · exact ne_ti zc3 (by decide)
                · exact ne_ti zc4 (by decide)
                · exact ne_ti zc5 (by decide))) (by decide) ?_
            refine j_iload_n 66 cx 0 dX6_needs_66 rfl ?_
            exact fin () _ _ _ _ dX6_needs_67 rfl (by simp [needF, kNeeds, zc1, zc2, zc3, zc4, zc5]) rfl trivial
set_option maxRecDepth 100000 in
set_option maxHeartbeats 4000000 in
theorem c_X6_tires (l : Launch) (G : pG) (o : Nat) (am : Nat → Nat) (ik : Bool) (la tn tk be an va : Int32) (bd : Bool) (σ : Nu) (p : Nat) (hp : p < 8) : KI l G yX6_tires wsX6_tires ({ frames := 1, cells := 0, slots := 0, locals := 22 } : Room) [.ref o, .int (nI p)] (wMO o am ik la tn tk be an va bd ++ [((am 0), .inl (gI G, 51, .inl (mm σ)))]) (S := Unit) (fun _ => True) (fun u => kTires (σ 2 p)) (fun u => wMO o am ik la tn tk be an va bd ++ [((am 0), .inl (gI G, 51, .inl (mm σ)))]) := by
  refine ki_of [(0, .ref o), (1, .int (nI p))] (own := RX6) (cc := cX6_tires) (nL := 2) (by decide +kernel) rfl rfl (Nat.le_of_ble_eq_true rfl) rfl (fun _ => rfl) (fun K cx fin => ?_)
  refine j_aload_n 0 cx 0 dX6_tires_0 rfl ?_
  refine j_iload_n 1 cx 1 dX6_tires_1 rfl ?_
  refine j_iconst 2 cx 0 dX6_tires_2 (by decide) ?_
  refine j_callV_i 3 cx 2 [0, 1] [.int (nI p), .int 0] (fun _ => wMO o am ik la tn tk be an va bd ++ [((am 0), .inl (gI G, 51, .inl (mm σ)))]) (c_X6_it (kl K) G o am ik la tn tk be an va bd σ p 0 (by omega) (by omega) ) gX6_tires_X6_it rfl rfl rfl ⟨rfl, by decide, by decide, rfl⟩ ⟨Nat.le_of_ble_eq_true rfl, Nat.le_of_ble_eq_true rfl⟩ ⟨Nat.zero_le _, Nat.zero_le _⟩ rfl (by decide) (ci := 5) 0 rfl rfl rfl rfl rfl (Nat.le_of_ble_eq_true rfl) dX6_tires_3 (fun _ => rfl) (fun zu1 zk1 => ?_)
  refine j_top (σ 2 p) rfl ?_
  by_cases zc1 : σ 2 p = 1
  · skip
    refine j_tableIn 6 cx 40 (1) dX6_tires_6 zc1 (by decide) (by decide) (by decide) rfl (by decide) ?_
    refine j_bipush 40 cx 10 dX6_tires_40 (by decide) ?_
    exact fin () _ _ _ _ dX6_tires_42 rfl (by simp [kTires, zc1]) rfl trivial
  · skip
    by_cases zc2 : σ 2 p = 2
    · skip
      refine j_tableIn 6 cx 43 (2) dX6_tires_6 zc2 (by decide) (by decide) (by decide) rfl (by decide) ?_
      refine j_bipush 43 cx (-3) dX6_tires_43 (by decide) ?_
      exact fin () _ _ _ _ dX6_tires_45 rfl (by simp [kTires, zc1, zc2]) rfl trivial
    · skip
      by_cases zc3 : σ 2 p = 3
      · skip
        refine j_tableIn 6 cx 46 (3) dX6_tires_6 zc3 (by decide) (by decide) (by decide) rfl (by decide) ?_
        refine j_iconst 46 cx 0 dX6_tires_46 (by decide) ?_
        exact fin () _ _ _ _ dX6_tires_47 rfl (by simp [kTires, zc1, zc2, zc3]) rfl trivial
      · skip
        by_cases zc4 : σ 2 p = 4
        · skip
          refine j_tableIn 6 cx 40 (4) dX6_tires_6 zc4 (by decide) (by decide) (by decide) rfl (by decide) ?_
          refine j_bipush 40 cx 10 dX6_tires_40 (by decide) ?_
          exact fin () _ _ _ _ dX6_tires_42 rfl (by simp [kTires, zc1, zc2, zc3, zc4]) rfl trivial
        · skip
          by_cases zc5 : σ 2 p = 5
          · skip
            refine j_tableIn 6 cx 48 (5) dX6_tires_6 zc5 (by decide) (by decide) (by decide) rfl (by decide) ?_
            refine j_iconst 48 cx (-1) dX6_tires_48 (by decide) ?_
            exact fin () _ _ _ _ dX6_tires_49 rfl (by simp [kTires, zc1, zc2, zc3, zc4, zc5]) rfl trivial
          · skip
            refine j_tableOut 6 cx 50 dX6_tires_6 (tb_out (fun z h1 h2 => by
                have hz : z = 1 ∨ z = 2 ∨ z = 3 ∨ z = 4 ∨ z = 5 := by omega
                rcases hz with rfl | rfl | rfl | rfl | rfl
                · exact ne_ti zc1 (by decide)
                · exact ne_ti zc2 (by decide)
                · exact ne_ti zc3 (by decide)
                · exact ne_ti zc4 (by decide)
                · exact ne_ti zc5 (by decide))) (by decide) ?_
            refine j_bipush 50 cx 6 dX6_tires_50 (by decide) ?_
            exact fin () _ _ _ _ dX6_tires_52 rfl (by simp [kTires, zc1, zc2, zc3, zc4, zc5]) rfl trivial
set_option maxRecDepth 100000 in
set_option maxHeartbeats 4000000 in
theorem c_X6_isDone (l : Launch) (G : pG) (o : Nat) (am : Nat → Nat) (ik : Bool) (la tn tk be an va : Int32) (bd : Bool) (σ : Nu) (p : Nat) (hp : p < 8) : KI l G yX6_isDone wsX6_isDone ({ frames := 2, cells := 0, slots := 0, locals := 44 } : Room) [.ref o, .int (nI p)] (wMO o am ik la tn tk be an va bd ++ [((am 0), .inl (gI G, 51, .inl (mm σ)))]) (S := Unit) (fun _ => True) (fun u => bI (done σ p)) (fun u => wMO o am ik la tn tk be an va bd ++ [((am 0), .inl (gI G, 51, .inl (mm σ)))]) := by
  refine ki_of [(0, .ref o), (1, .int (nI p))] (own := RX6) (cc := cX6_isDone) (nL := 2) (by decide +kernel) rfl rfl (Nat.le_of_ble_eq_true rfl) rfl (fun _ => rfl) (fun K cx fin => ?_)
  refine j_aload_n 0 cx 0 dX6_isDone_0 rfl ?_
  refine j_iload_n 1 cx 1 dX6_isDone_1 rfl ?_
  refine j_iconst 2 cx 2 dX6_isDone_2 (by decide) ?_
  refine j_callV_i 3 cx 2 [0, 1] [.int (nI p), .int 2] (fun _ => wMO o am ik la tn tk be an va bd ++ [((am 0), .inl (gI G, 51, .inl (mm σ)))]) (c_X6_it (kl K) G o am ik la tn tk be an va bd σ p 2 (by omega) (by omega) ) gX6_isDone_X6_it rfl rfl rfl ⟨rfl, by decide, by decide, rfl⟩ ⟨Nat.le_of_ble_eq_true rfl, Nat.le_of_ble_eq_true rfl⟩ ⟨Nat.zero_le _, Nat.zero_le _⟩ rfl (by decide) (ci := 5) 0 rfl rfl rfl rfl rfl (Nat.le_of_ble_eq_true rfl) dX6_isDone_3 (fun _ => rfl) (fun zu1 zk1 => ?_)
  refine j_top (σ 4 p) rfl ?_
  refine j_aload_n 6 cx 0 dX6_isDone_6 rfl ?_
  refine j_iload_n 7 cx 1 dX6_isDone_7 rfl ?_
  refine j_callV_i 8 cx 1 [0, 1] [.int (nI p)] (fun _ => wMO o am ik la tn tk be an va bd ++ [((am 0), .inl (gI G, 51, .inl (mm σ)))]) (c_X6_needs (kl K) G o am ik la tn tk be an va bd σ p (by omega) ) gX6_isDone_X6_needs rfl rfl rfl ⟨rfl, by decide, by decide, rfl⟩ ⟨Nat.le_of_ble_eq_true rfl, Nat.le_of_ble_eq_true rfl⟩ ⟨Nat.zero_le _, Nat.zero_le _⟩ rfl (by decide) (ci := 5) 0 rfl rfl rfl rfl rfl (Nat.le_of_ble_eq_true rfl) dX6_isDone_8 (fun _ => rfl) (fun zu2 zk2 => ?_)
  refine j_top (needF σ p) rfl ?_
  refine j_icmp_lt 11 cx 18 dX6_isDone_11 (by decide) (fun zc1 => ?_) (fun zc1 => ?_)
  · skip
    refine j_iconst 18 cx 0 dX6_isDone_18 (by decide) ?_
    exact fin () _ _ _ _ dX6_isDone_19 rfl (by rw [show done σ p = false from decide_eq_false (Int32.not_le.mpr zc1)]; rfl) rfl trivial
  · skip
    refine j_iconst 14 cx 1 dX6_isDone_14 (by decide) ?_
    refine j_goto 15 cx 19 dX6_isDone_15 (by decide) ?_
    exact fin () _ _ _ _ dX6_isDone_19 rfl (by rw [show done σ p = true from decide_eq_true (Int32.not_lt.mp zc1)]; rfl) rfl trivial
set_option maxRecDepth 100000 in
set_option maxHeartbeats 4000000 in
theorem c_X6_gives (l : Launch) (G : pG) (o : Nat) (am : Nat → Nat) (ik : Bool) (la tn tk be an va : Int32) (bd : Bool) (σ : Nu) (p : Nat) (hI : Inv σ) (hp : p < 8) : KI l G yX6_gives wsX6_gives ({ frames := 1, cells := 0, slots := 0, locals := 22 } : Room) [.ref o, .int (nI p)] (wMO o am ik la tn tk be an va bd ++ [((am 0), .inl (gI G, 51, .inl (mm σ)))]) (S := Unit) (fun _ => True) (fun u => giveF σ p) (fun u => wMO o am ik la tn tk be an va bd ++ [((am 0), .inl (gI G, 51, .inl (mm σ)))]) := by
  refine ki_of [(0, .ref o), (1, .int (nI p))] (own := RX6) (cc := cX6_gives) (nL := 5) (by decide +kernel) rfl rfl (Nat.le_of_ble_eq_true rfl) rfl (fun _ => rfl) (fun K cx fin => ?_)
  refine j_iconst 0 cx 4 dX6_gives_0 (by decide) ?_
  refine j_aload_n 1 cx 0 dX6_gives_1 rfl ?_
  refine j_get 2 cx 0 0 (T := TX6) (v := .ref ((am 0))) (fun _ h => List.mem_cons_of_mem _ (List.mem_append_right _ (h))) (List.mem_of_getElem? (i := 1) rfl) (ci := 5) rfl (by decide) rfl rfl rfl dX6_gives_2 ?_
  refine j_iconst 5 cx 1 dX6_gives_5 (by decide) ?_
  refine j_iald 6 cx 1 1 rfl rfl (by omega) (by decide) dX6_gives_6 ?_
  refine j_top (σ 0 1) rfl ?_
  refine j_bipush 7 cx 30 dX6_gives_7 (by decide) ?_
  refine j_idiv 9 cx dX6_gives_9 (by decide) ?_
  refine j_isub 10 cx dX6_gives_10 ?_
  refine j_istore_n 11 cx [(2, .int (4 - ((σ 0 1) / 30))), (0, .ref o), (1, .int (nI p))] dX6_gives_11 (by decide) rfl ?_
  refine j_aload_n 12 cx 1 dX6_gives_12 rfl ?_
  refine j_callV_i 13 cx 0 [0, 1] [] (fun _ => wMO o am ik la tn tk be an va bd ++ [((am 0), .inl (gI G, 51, .inl (mm σ)))]) (c_X6_isHoliday (kl K) G o am ik la tn tk be an va bd σ  hI.dy hI.dyM ) gX6_gives_X6_isHoliday rfl rfl rfl ⟨rfl, by decide, by decide, rfl⟩ ⟨Nat.le_of_ble_eq_true rfl, Nat.le_of_ble_eq_true rfl⟩ ⟨Nat.zero_le _, Nat.zero_le _⟩ rfl (by decide) (ci := 5) 0 rfl rfl rfl rfl rfl (Nat.le_of_ble_eq_true rfl) dX6_gives_13 (fun _ => rfl) (fun zu1 zk1 => ?_)
  refine j_top (bI (hol σ)) rfl ?_
  refine j_ifB_eq 16 cx 25 dX6_gives_16 (by decide) (fun zc1 => ?_) (fun zc1 => ?_)
  · skip
    refine j_iload_n 25 cx 0 dX6_gives_25 rfl ?_
    refine j_istore_n 26 cx [(3, .int (4 - ((σ 0 1) / 30))), (2, .int (4 - ((σ 0 1) / 30))), (0, .ref o), (1, .int (nI p))] dX6_gives_26 (by decide) rfl ?_
    refine j_iload_n 27 cx 1 dX6_gives_27 rfl ?_
    refine j_istore 28 cx [(4, .int (4 - ((σ 0 1) / 30))), (3, .int (4 - ((σ 0 1) / 30))), (2, .int (4 - ((σ 0 1) / 30))), (0, .ref o), (1, .int (nI p))] dX6_gives_28 (by decide) rfl ?_
    refine j_aload_n 30 cx 3 dX6_gives_30 rfl ?_
    refine j_iload_n 31 cx 4 dX6_gives_31 rfl ?_
    refine j_iconst 32 cx 0 dX6_gives_32 (by decide) ?_
    refine j_callV_i 33 cx 2 [0, 1] [.int (nI p), .int 0] (fun _ => wMO o am ik la tn tk be an va bd ++ [((am 0), .inl (gI G, 51, .inl (mm σ)))]) (c_X6_it (kl K) G o am ik la tn tk be an va bd σ p 0 (by omega) (by omega) ) gX6_gives_X6_it rfl rfl rfl ⟨rfl, by decide, by decide, rfl⟩ ⟨Nat.le_of_ble_eq_true rfl, Nat.le_of_ble_eq_true rfl⟩ ⟨Nat.zero_le _, Nat.zero_le _⟩ rfl (by decide) (ci := 5) 0 rfl rfl rfl rfl rfl (Nat.le_of_ble_eq_true rfl) dX6_gives_33 (fun _ => rfl) (fun zu2 zk2 => ?_)
    refine j_top (σ 2 p) rfl ?_
    by_cases zc2 : σ 2 p = 1
    · skip
      refine j_tableIn 36 cx 72 (1) dX6_gives_36 zc2 (by decide) (by decide) (by decide) rfl (by decide) ?_
      refine j_iload_n 72 cx 1 dX6_gives_72 rfl ?_
      refine j_istore 73 cx [(4, .int (4 - ((σ 0 1) / 30))), (3, .int (4 - ((σ 0 1) / 30))), (2, .int (4 - ((σ 0 1) / 30))), (0, .ref o), (1, .int (nI p))] dX6_gives_73 (by decide) rfl ?_
      refine j_goto 75 cx 123 dX6_gives_75 (by decide) ?_
      refine j_iload 123 cx 0 dX6_gives_123 rfl ?_
      refine j_if_ge 125 cx 132 dX6_gives_125 (by decide) (fun zc3 => ?_) (fun zc3 => ?_)
      · skip
        refine j_iload 132 cx 0 dX6_gives_132 rfl ?_
        exact fin () _ _ _ _ dX6_gives_134 rfl ((mx0_ge zc3).symm.trans (by simp [giveF, kGives, zc1, zc2])) rfl trivial
      · skip
        refine j_iconst 128 cx 0 dX6_gives_128 (by decide) ?_
        refine j_goto 129 cx 134 dX6_gives_129 (by decide) ?_
        exact fin () _ _ _ _ dX6_gives_134 rfl ((mx0_lt zc3).symm.trans (by simp [giveF, kGives, zc1, zc2])) rfl trivial
    · skip
      by_cases zc4 : σ 2 p = 2
      · skip
        refine j_tableIn 36 cx 78 (2) dX6_gives_36 zc4 (by decide) (by decide) (by decide) rfl (by decide) ?_
        refine j_iload_n 78 cx 2 dX6_gives_78 rfl ?_
        refine j_iconst 79 cx 1 dX6_gives_79 (by decide) ?_
        refine j_iadd 80 cx dX6_gives_80 ?_
        refine j_istore 81 cx [(4, .int ((4 - ((σ 0 1) / 30)) + 1)), (3, .int (4 - ((σ 0 1) / 30))), (2, .int (4 - ((σ 0 1) / 30))), (0, .ref o), (1, .int (nI p))] dX6_gives_81 (by decide) rfl ?_
        refine j_goto 83 cx 123 dX6_gives_83 (by decide) ?_
        refine j_iload 123 cx 0 dX6_gives_123 rfl ?_
        refine j_if_ge 125 cx 132 dX6_gives_125 (by decide) (fun zc5 => ?_) (fun zc5 => ?_)
        · skip
          refine j_iload 132 cx 0 dX6_gives_132 rfl ?_
          exact fin () _ _ _ _ dX6_gives_134 rfl ((mx0_ge zc5).symm.trans (by simp [giveF, kGives, zc1, zc2, zc4])) rfl trivial
        · skip
          refine j_iconst 128 cx 0 dX6_gives_128 (by decide) ?_
          refine j_goto 129 cx 134 dX6_gives_129 (by decide) ?_
          exact fin () _ _ _ _ dX6_gives_134 rfl ((mx0_lt zc5).symm.trans (by simp [giveF, kGives, zc1, zc2, zc4])) rfl trivial
      · skip
        by_cases zc6 : σ 2 p = 3
        · skip
          refine j_tableIn 36 cx 86 (3) dX6_gives_36 zc6 (by decide) (by decide) (by decide) rfl (by decide) ?_
          refine j_iconst 86 cx 1 dX6_gives_86 (by decide) ?_
          refine j_istore 87 cx [(4, .int 1), (3, .int (4 - ((σ 0 1) / 30))), (2, .int (4 - ((σ 0 1) / 30))), (0, .ref o), (1, .int (nI p))] dX6_gives_87 (by decide) rfl ?_
          refine j_goto 89 cx 123 dX6_gives_89 (by decide) ?_
          refine j_iload 123 cx 0 dX6_gives_123 rfl ?_
          refine j_if_ge_T 125 cx 132 dX6_gives_125 (by decide) (by decide) ?_
          refine j_iload 132 cx 0 dX6_gives_132 rfl ?_
          exact fin () _ _ _ _ dX6_gives_134 rfl (by simp [giveF, kGives, zc1, zc2, zc4, zc6]) rfl trivial
        · skip
          by_cases zc7 : σ 2 p = 4
          · skip
            refine j_tableIn 36 cx 92 (4) dX6_gives_36 zc7 (by decide) (by decide) (by decide) rfl (by decide) ?_
            refine j_iload_n 92 cx 1 dX6_gives_92 rfl ?_
            refine j_iconst 93 cx 1 dX6_gives_93 (by decide) ?_
            refine j_isub 94 cx dX6_gives_94 ?_
            refine j_istore 95 cx [(4, .int ((4 - ((σ 0 1) / 30)) - 1)), (3, .int (4 - ((σ 0 1) / 30))), (2, .int (4 - ((σ 0 1) / 30))), (0, .ref o), (1, .int (nI p))] dX6_gives_95 (by decide) rfl ?_
            refine j_goto 97 cx 123 dX6_gives_97 (by decide) ?_
            refine j_iload 123 cx 0 dX6_gives_123 rfl ?_
            refine j_if_ge 125 cx 132 dX6_gives_125 (by decide) (fun zc8 => ?_) (fun zc8 => ?_)
            · skip
              refine j_iload 132 cx 0 dX6_gives_132 rfl ?_
              exact fin () _ _ _ _ dX6_gives_134 rfl ((mx0_ge zc8).symm.trans (by simp [giveF, kGives, zc1, zc2, zc4, zc6, zc7])) rfl trivial
            · skip
              refine j_iconst 128 cx 0 dX6_gives_128 (by decide) ?_
              refine j_goto 129 cx 134 dX6_gives_129 (by decide) ?_
              exact fin () _ _ _ _ dX6_gives_134 rfl ((mx0_lt zc8).symm.trans (by simp [giveF, kGives, zc1, zc2, zc4, zc6, zc7])) rfl trivial
          · skip
            by_cases zc9 : σ 2 p = 5
            · skip
              refine j_tableIn 36 cx 100 (5) dX6_gives_36 zc9 (by decide) (by decide) (by decide) rfl (by decide) ?_
              refine j_aload_n 100 cx 3 dX6_gives_100 rfl ?_
              refine j_get 101 cx 0 0 (T := TX6) (v := .ref ((am 0))) (fun _ h => List.mem_cons_of_mem _ (List.mem_append_right _ (h))) (List.mem_of_getElem? (i := 1) rfl) (ci := 5) rfl (by decide) rfl rfl rfl dX6_gives_101 ?_
              refine j_iconst 104 cx 1 dX6_gives_104 (by decide) ?_
              refine j_iald 105 cx 1 1 rfl rfl (by omega) (by decide) dX6_gives_105 ?_
              refine j_top (σ 0 1) rfl ?_
              refine j_bipush 106 cx 80 dX6_gives_106 (by decide) ?_
              refine j_icmp_le 108 cx 115 dX6_gives_108 (by decide) (fun zc10 => ?_) (fun zc10 => ?_)
              · skip
                refine j_iload_n 115 cx 2 dX6_gives_115 rfl ?_
                refine j_iconst 116 cx 1 dX6_gives_116 (by decide) ?_
                refine j_iadd 117 cx dX6_gives_117 ?_
                refine j_istore 118 cx [(4, .int ((4 - ((σ 0 1) / 30)) + 1)), (3, .int (4 - ((σ 0 1) / 30))), (2, .int (4 - ((σ 0 1) / 30))), (0, .ref o), (1, .int (nI p))] dX6_gives_118 (by decide) rfl ?_
                refine j_goto 120 cx 123 dX6_gives_120 (by decide) ?_
                refine j_iload 123 cx 0 dX6_gives_123 rfl ?_
                refine j_if_ge 125 cx 132 dX6_gives_125 (by decide) (fun zc11 => ?_) (fun zc11 => ?_)
                · skip
                  refine j_iload 132 cx 0 dX6_gives_132 rfl ?_
                  exact fin () _ _ _ _ dX6_gives_134 rfl ((mx0_ge zc11).symm.trans (by simp [giveF, kGives, zc1, zc2, zc4, zc6, zc7, zc9, Int32.not_lt.mpr zc10])) rfl trivial
                · skip
                  refine j_iconst 128 cx 0 dX6_gives_128 (by decide) ?_
                  refine j_goto 129 cx 134 dX6_gives_129 (by decide) ?_
                  exact fin () _ _ _ _ dX6_gives_134 rfl ((mx0_lt zc11).symm.trans (by simp [giveF, kGives, zc1, zc2, zc4, zc6, zc7, zc9, Int32.not_lt.mpr zc10])) rfl trivial
              · skip
                refine j_iconst 111 cx 0 dX6_gives_111 (by decide) ?_
                refine j_goto 112 cx 118 dX6_gives_112 (by decide) ?_
                refine j_istore 118 cx [(4, .int 0), (3, .int (4 - ((σ 0 1) / 30))), (2, .int (4 - ((σ 0 1) / 30))), (0, .ref o), (1, .int (nI p))] dX6_gives_118 (by decide) rfl ?_
                refine j_goto 120 cx 123 dX6_gives_120 (by decide) ?_
                refine j_iload 123 cx 0 dX6_gives_123 rfl ?_
                refine j_if_ge_T 125 cx 132 dX6_gives_125 (by decide) (by decide) ?_
                refine j_iload 132 cx 0 dX6_gives_132 rfl ?_
                exact fin () _ _ _ _ dX6_gives_134 rfl (by simp [giveF, kGives, zc1, zc2, zc4, zc6, zc7, zc9, Int32.not_le.mp zc10]) rfl trivial
            · skip
              refine j_tableOut 36 cx 123 dX6_gives_36 (tb_out (fun z h1 h2 => by
                  have hz : z = 1 ∨ z = 2 ∨ z = 3 ∨ z = 4 ∨ z = 5 := by omega
                  rcases hz with rfl | rfl | rfl | rfl | rfl
                  · exact ne_ti zc2 (by decide)
                  · exact ne_ti zc4 (by decide)
                  · exact ne_ti zc6 (by decide)
                  · exact ne_ti zc7 (by decide)
                  · exact ne_ti zc9 (by decide))) (by decide) ?_
              refine j_iload 123 cx 0 dX6_gives_123 rfl ?_
              refine j_if_ge 125 cx 132 dX6_gives_125 (by decide) (fun zc12 => ?_) (fun zc12 => ?_)
              · skip
                refine j_iload 132 cx 0 dX6_gives_132 rfl ?_
                exact fin () _ _ _ _ dX6_gives_134 rfl ((mx0_ge zc12).symm.trans (by simp [giveF, kGives, zc1, zc2, zc4, zc6, zc7, zc9])) rfl trivial
              · skip
                refine j_iconst 128 cx 0 dX6_gives_128 (by decide) ?_
                refine j_goto 129 cx 134 dX6_gives_129 (by decide) ?_
                exact fin () _ _ _ _ dX6_gives_134 rfl ((mx0_lt zc12).symm.trans (by simp [giveF, kGives, zc1, zc2, zc4, zc6, zc7, zc9])) rfl trivial
  · skip
    refine j_iload_n 19 cx 0 dX6_gives_19 rfl ?_
    refine j_iconst 20 cx 3 dX6_gives_20 (by decide) ?_
    refine j_iadd 21 cx dX6_gives_21 ?_
    refine j_goto 22 cx 26 dX6_gives_22 (by decide) ?_
    refine j_istore_n 26 cx [(3, .int ((4 - ((σ 0 1) / 30)) + 3)), (2, .int (4 - ((σ 0 1) / 30))), (0, .ref o), (1, .int (nI p))] dX6_gives_26 (by decide) rfl ?_
    refine j_iload_n 27 cx 1 dX6_gives_27 rfl ?_
    refine j_istore 28 cx [(4, .int (4 - ((σ 0 1) / 30))), (3, .int ((4 - ((σ 0 1) / 30)) + 3)), (2, .int (4 - ((σ 0 1) / 30))), (0, .ref o), (1, .int (nI p))] dX6_gives_28 (by decide) rfl ?_
    refine j_aload_n 30 cx 3 dX6_gives_30 rfl ?_
    refine j_iload_n 31 cx 4 dX6_gives_31 rfl ?_
    refine j_iconst 32 cx 0 dX6_gives_32 (by decide) ?_
    refine j_callV_i 33 cx 2 [0, 1] [.int (nI p), .int 0] (fun _ => wMO o am ik la tn tk be an va bd ++ [((am 0), .inl (gI G, 51, .inl (mm σ)))]) (c_X6_it (kl K) G o am ik la tn tk be an va bd σ p 0 (by omega) (by omega) ) gX6_gives_X6_it rfl rfl rfl ⟨rfl, by decide, by decide, rfl⟩ ⟨Nat.le_of_ble_eq_true rfl, Nat.le_of_ble_eq_true rfl⟩ ⟨Nat.zero_le _, Nat.zero_le _⟩ rfl (by decide) (ci := 5) 0 rfl rfl rfl rfl rfl (Nat.le_of_ble_eq_true rfl) dX6_gives_33 (fun _ => rfl) (fun zu3 zk3 => ?_)
    refine j_top (σ 2 p) rfl ?_
    by_cases zc13 : σ 2 p = 1
    · skip
      refine j_tableIn 36 cx 72 (1) dX6_gives_36 zc13 (by decide) (by decide) (by decide) rfl (by decide) ?_
      refine j_iload_n 72 cx 1 dX6_gives_72 rfl ?_
      refine j_istore 73 cx [(4, .int ((4 - ((σ 0 1) / 30)) + 3)), (3, .int ((4 - ((σ 0 1) / 30)) + 3)), (2, .int (4 - ((σ 0 1) / 30))), (0, .ref o), (1, .int (nI p))] dX6_gives_73 (by decide) rfl ?_
      refine j_goto 75 cx 123 dX6_gives_75 (by decide) ?_
      refine j_iload 123 cx 0 dX6_gives_123 rfl ?_
      refine j_if_ge 125 cx 132 dX6_gives_125 (by decide) (fun zc14 => ?_) (fun zc14 => ?_)
      · skip
        refine j_iload 132 cx 0 dX6_gives_132 rfl ?_
        exact fin () _ _ _ _ dX6_gives_134 rfl ((mx0_ge zc14).symm.trans (by simp [giveF, kGives, zc1, zc13])) rfl trivial
      · skip
        refine j_iconst 128 cx 0 dX6_gives_128 (by decide) ?_
        refine j_goto 129 cx 134 dX6_gives_129 (by decide) ?_
        exact fin () _ _ _ _ dX6_gives_134 rfl ((mx0_lt zc14).symm.trans (by simp [giveF, kGives, zc1, zc13])) rfl trivial
    · skip
      by_cases zc15 : σ 2 p = 2
      · skip
        refine j_tableIn 36 cx 78 (2) dX6_gives_36 zc15 (by decide) (by decide) (by decide) rfl (by decide) ?_
        refine j_iload_n 78 cx 2 dX6_gives_78 rfl ?_
        refine j_iconst 79 cx 1 dX6_gives_79 (by decide) ?_
        refine j_iadd 80 cx dX6_gives_80 ?_
        refine j_istore 81 cx [(4, .int ((4 - ((σ 0 1) / 30)) + 1)), (3, .int ((4 - ((σ 0 1) / 30)) + 3)), (2, .int (4 - ((σ 0 1) / 30))), (0, .ref o), (1, .int (nI p))] dX6_gives_81 (by decide) rfl ?_
        refine j_goto 83 cx 123 dX6_gives_83 (by decide) ?_
        refine j_iload 123 cx 0 dX6_gives_123 rfl ?_
        refine j_if_ge 125 cx 132 dX6_gives_125 (by decide) (fun zc16 => ?_) (fun zc16 => ?_)
        · skip
          refine j_iload 132 cx 0 dX6_gives_132 rfl ?_
          exact fin () _ _ _ _ dX6_gives_134 rfl ((mx0_ge zc16).symm.trans (by simp [giveF, kGives, zc1, zc13, zc15])) rfl trivial
        · skip
          refine j_iconst 128 cx 0 dX6_gives_128 (by decide) ?_
          refine j_goto 129 cx 134 dX6_gives_129 (by decide) ?_
          exact fin () _ _ _ _ dX6_gives_134 rfl ((mx0_lt zc16).symm.trans (by simp [giveF, kGives, zc1, zc13, zc15])) rfl trivial
      · skip
        by_cases zc17 : σ 2 p = 3
        · skip
          refine j_tableIn 36 cx 86 (3) dX6_gives_36 zc17 (by decide) (by decide) (by decide) rfl (by decide) ?_
          refine j_iconst 86 cx 1 dX6_gives_86 (by decide) ?_
          refine j_istore 87 cx [(4, .int 1), (3, .int ((4 - ((σ 0 1) / 30)) + 3)), (2, .int (4 - ((σ 0 1) / 30))), (0, .ref o), (1, .int (nI p))] dX6_gives_87 (by decide) rfl ?_
          refine j_goto 89 cx 123 dX6_gives_89 (by decide) ?_
          refine j_iload 123 cx 0 dX6_gives_123 rfl ?_
          refine j_if_ge_T 125 cx 132 dX6_gives_125 (by decide) (by decide) ?_
          refine j_iload 132 cx 0 dX6_gives_132 rfl ?_
          exact fin () _ _ _ _ dX6_gives_134 rfl (by simp [giveF, kGives, zc1, zc13, zc15, zc17]) rfl trivial
        · skip
          by_cases zc18 : σ 2 p = 4
          · skip
            refine j_tableIn 36 cx 92 (4) dX6_gives_36 zc18 (by decide) (by decide) (by decide) rfl (by decide) ?_
            refine j_iload_n 92 cx 1 dX6_gives_92 rfl ?_
            refine j_iconst 93 cx 1 dX6_gives_93 (by decide) ?_
            refine j_isub 94 cx dX6_gives_94 ?_
            refine j_istore 95 cx [(4, .int (((4 - ((σ 0 1) / 30)) + 3) - 1)), (3, .int ((4 - ((σ 0 1) / 30)) + 3)), (2, .int (4 - ((σ 0 1) / 30))), (0, .ref o), (1, .int (nI p))] dX6_gives_95 (by decide) rfl ?_
            refine j_goto 97 cx 123 dX6_gives_97 (by decide) ?_
            refine j_iload 123 cx 0 dX6_gives_123 rfl ?_
            refine j_if_ge 125 cx 132 dX6_gives_125 (by decide) (fun zc19 => ?_) (fun zc19 => ?_)
            · skip
              refine j_iload 132 cx 0 dX6_gives_132 rfl ?_
              exact fin () _ _ _ _ dX6_gives_134 rfl ((mx0_ge zc19).symm.trans (by simp [giveF, kGives, zc1, zc13, zc15, zc17, zc18])) rfl trivial
            · skip
              refine j_iconst 128 cx 0 dX6_gives_128 (by decide) ?_
              refine j_goto 129 cx 134 dX6_gives_129 (by decide) ?_
              exact fin () _ _ _ _ dX6_gives_134 rfl ((mx0_lt zc19).symm.trans (by simp [giveF, kGives, zc1, zc13, zc15, zc17, zc18])) rfl trivial
          · skip
            by_cases zc20 : σ 2 p = 5
            · skip
              refine j_tableIn 36 cx 100 (5) dX6_gives_36 zc20 (by decide) (by decide) (by decide) rfl (by decide) ?_
              refine j_aload_n 100 cx 3 dX6_gives_100 rfl ?_
              refine j_get 101 cx 0 0 (T := TX6) (v := .ref ((am 0))) (fun _ h => List.mem_cons_of_mem _ (List.mem_append_right _ (h))) (List.mem_of_getElem? (i := 1) rfl) (ci := 5) rfl (by decide) rfl rfl rfl dX6_gives_101 ?_
              refine j_iconst 104 cx 1 dX6_gives_104 (by decide) ?_
              refine j_iald 105 cx 1 1 rfl rfl (by omega) (by decide) dX6_gives_105 ?_
              refine j_top (σ 0 1) rfl ?_
              refine j_bipush 106 cx 80 dX6_gives_106 (by decide) ?_
              refine j_icmp_le 108 cx 115 dX6_gives_108 (by decide) (fun zc21 => ?_) (fun zc21 => ?_)
              · skip
                refine j_iload_n 115 cx 2 dX6_gives_115 rfl ?_
                refine j_iconst 116 cx 1 dX6_gives_116 (by decide) ?_
                refine j_iadd 117 cx dX6_gives_117 ?_
                refine j_istore 118 cx [(4, .int ((4 - ((σ 0 1) / 30)) + 1)), (3, .int ((4 - ((σ 0 1) / 30)) + 3)), (2, .int (4 - ((σ 0 1) / 30))), (0, .ref o), (1, .int (nI p))] dX6_gives_118 (by decide) rfl ?_
                refine j_goto 120 cx 123 dX6_gives_120 (by decide) ?_
                refine j_iload 123 cx 0 dX6_gives_123 rfl ?_
                refine j_if_ge 125 cx 132 dX6_gives_125 (by decide) (fun zc22 => ?_) (fun zc22 => ?_)
                · skip
                  refine j_iload 132 cx 0 dX6_gives_132 rfl ?_
                  exact fin () _ _ _ _ dX6_gives_134 rfl ((mx0_ge zc22).symm.trans (by simp [giveF, kGives, zc1, zc13, zc15, zc17, zc18, zc20, Int32.not_lt.mpr zc21])) rfl trivial
                · skip
                  refine j_iconst 128 cx 0 dX6_gives_128 (by decide) ?_
                  refine j_goto 129 cx 134 dX6_gives_129 (by decide) ?_
                  exact fin () _ _ _ _ dX6_gives_134 rfl ((mx0_lt zc22).symm.trans (by simp [giveF, kGives, zc1, zc13, zc15, zc17, zc18, zc20, Int32.not_lt.mpr zc21])) rfl trivial
              · skip
                refine j_iconst 111 cx 0 dX6_gives_111 (by decide) ?_
                refine j_goto 112 cx 118 dX6_gives_112 (by decide) ?_
                refine j_istore 118 cx [(4, .int 0), (3, .int ((4 - ((σ 0 1) / 30)) + 3)), (2, .int (4 - ((σ 0 1) / 30))), (0, .ref o), (1, .int (nI p))] dX6_gives_118 (by decide) rfl ?_
                refine j_goto 120 cx 123 dX6_gives_120 (by decide) ?_
                refine j_iload 123 cx 0 dX6_gives_123 rfl ?_
                refine j_if_ge_T 125 cx 132 dX6_gives_125 (by decide) (by decide) ?_
                refine j_iload 132 cx 0 dX6_gives_132 rfl ?_
                exact fin () _ _ _ _ dX6_gives_134 rfl (by simp [giveF, kGives, zc1, zc13, zc15, zc17, zc18, zc20, Int32.not_le.mp zc21]) rfl trivial
            · skip
              refine j_tableOut 36 cx 123 dX6_gives_36 (tb_out (fun z h1 h2 => by
                  have hz : z = 1 ∨ z = 2 ∨ z = 3 ∨ z = 4 ∨ z = 5 := by omega
                  rcases hz with rfl | rfl | rfl | rfl | rfl
                  · exact ne_ti zc13 (by decide)
                  · exact ne_ti zc15 (by decide)
                  · exact ne_ti zc17 (by decide)
                  · exact ne_ti zc18 (by decide)
                  · exact ne_ti zc20 (by decide))) (by decide) ?_
              refine j_iload 123 cx 0 dX6_gives_123 rfl ?_
              refine j_if_ge 125 cx 132 dX6_gives_125 (by decide) (fun zc23 => ?_) (fun zc23 => ?_)
              · skip
                refine j_iload 132 cx 0 dX6_gives_132 rfl ?_
                exact fin () _ _ _ _ dX6_gives_134 rfl ((mx0_ge zc23).symm.trans (by simp [giveF, kGives, zc1, zc13, zc15, zc17, zc18, zc20])) rfl trivial
              · skip
                refine j_iconst 128 cx 0 dX6_gives_128 (by decide) ?_
                refine j_goto 129 cx 134 dX6_gives_129 (by decide) ?_
                exact fin () _ _ _ _ dX6_gives_134 rfl ((mx0_lt zc23).symm.trans (by simp [giveF, kGives, zc1, zc13, zc15, zc17, zc18, zc20])) rfl trivial
set_option maxRecDepth 100000 in
set_option maxHeartbeats 4000000 in
theorem c_X6_isAnotherLeft (l : Launch) (G : pG) (o : Nat) (am : Nat → Nat) (ik : Bool) (la tn tk be an va : Int32) (bd : Bool) (σ : Nu) (p : Nat) (hI : Inv σ) (hp : p < 8) : KI l G yX6_isAnotherLeft wsX6_isAnotherLeft ({ frames := 3, cells := 0, slots := 0, locals := 65 } : Room) [.ref o, .int (nI p)] (wMO o am ik la tn tk be an va bd ++ [((am 0), .inl (gI G, 51, .inl (mm σ)))]) (S := Unit) (fun _ => True) (fun u => bI (anoN σ p (szN σ))) (fun u => wMO o am ik la tn tk be an va bd ++ [((am 0), .inl (gI G, 51, .inl (mm σ)))]) := by
  have h8 := hI.sz8
  refine ki_of [(0, .ref o), (1, .int (nI p))] (own := RX6) (cc := cX6_isAnotherLeft) (nL := 4) (by decide +kernel) rfl rfl (Nat.le_of_ble_eq_true rfl) rfl (fun _ => rfl) (fun K cx fin => ?_)
  refine j_iconst 0 cx 0 dX6_isAnotherLeft_0 (by decide) ?_
  refine j_istore_n 1 cx [(2, .int 0), (0, .ref o), (1, .int (nI p))] dX6_isAnotherLeft_1 (by decide) rfl ?_
  refine j_iconst 2 cx 0 dX6_isAnotherLeft_2 (by decide) ?_
  refine j_istore_n 3 cx [(3, .int 0), (2, .int 0), (0, .ref o), (1, .int (nI p))] dX6_isAnotherLeft_3 (by decide) rfl ?_
  have L4 : ∀ d : Nat, ∀ (k : Nat), (k + d = szN σ) → JJ G K 0 0 (wMO o am ik la tn tk be an va bd ++ [((am 0), .inl (gI G, 51, .inl (mm σ)))]) [(3, .int (nI k)), (2, .int (bI (anoN σ p k))), (1, .int (nI p)), (0, .ref o)] 4 [] := by
    intro d
    induction d with
    | zero =>
      intro k hk
      refine j_iload_n 4 cx 0 dX6_isAnotherLeft_4 rfl ?_
      refine j_aload_n 5 cx 3 dX6_isAnotherLeft_5 rfl ?_
      refine j_get 6 cx 0 0 (T := TX6) (v := .ref ((am 0))) (fun _ h => List.mem_cons_of_mem _ (List.mem_append_right _ (h))) (List.mem_of_getElem? (i := 1) rfl) (ci := 5) rfl (by decide) rfl rfl rfl dX6_isAnotherLeft_6 ?_
      refine j_iconst 9 cx 3 dX6_isAnotherLeft_9 (by decide) ?_
      refine j_iald 10 cx 1 3 rfl rfl (by omega) (by decide) dX6_isAnotherLeft_10 ?_
      refine j_top (σ 0 3) rfl ?_
      refine j_top (nI (szN σ)) hI.sz ?_
      refine j_icmp_ge_T 11 cx 43 dX6_isAnotherLeft_11 (by decide) (nI_le (by omega) (by omega)) ?_
      refine j_iload_n 43 cx 1 dX6_isAnotherLeft_43 rfl ?_
      exact fin () _ _ _ _ dX6_isAnotherLeft_44 (bI_nar _) (by rw [show k = szN σ from by omega]) rfl trivial
    | succ d ih4 =>
      intro k hk
      refine j_iload_n 4 cx 0 dX6_isAnotherLeft_4 rfl ?_
      refine j_aload_n 5 cx 3 dX6_isAnotherLeft_5 rfl ?_
      refine j_get 6 cx 0 0 (T := TX6) (v := .ref ((am 0))) (fun _ h => List.mem_cons_of_mem _ (List.mem_append_right _ (h))) (List.mem_of_getElem? (i := 1) rfl) (ci := 5) rfl (by decide) rfl rfl rfl dX6_isAnotherLeft_6 ?_
      refine j_iconst 9 cx 3 dX6_isAnotherLeft_9 (by decide) ?_
      refine j_iald 10 cx 1 3 rfl rfl (by omega) (by decide) dX6_isAnotherLeft_10 ?_
      refine j_top (σ 0 3) rfl ?_
      refine j_top (nI (szN σ)) hI.sz ?_
      refine j_icmp_ge_F 11 cx 43 dX6_isAnotherLeft_11 (by decide) (nI_ge (by omega) (by omega)) ?_
      refine j_iload_n 14 cx 1 dX6_isAnotherLeft_14 rfl ?_
      refine j_ifB_ne 15 cx 31 dX6_isAnotherLeft_15 (by decide) (fun zc1 => ?_) (fun zc1 => ?_)
      · skip
        refine j_iconst 31 cx 1 dX6_isAnotherLeft_31 (by decide) ?_
        refine j_goto 32 cx 36 dX6_isAnotherLeft_32 (by decide) ?_
        refine j_istore_n 36 cx [(2, .int 1), (3, .int (nI k)), (1, .int (nI p)), (0, .ref o)] dX6_isAnotherLeft_36 (by decide) rfl ?_
        refine j_iinc 37 cx [(3, .int (nI (k + 1))), (2, .int 1), (1, .int (nI p)), (0, .ref o)] 1 (nI (k + 1)) dX6_isAnotherLeft_37 rfl (iinc1 k) (by decide) rfl ?_
        refine j_goto 40 cx 4 dX6_isAnotherLeft_40 (by decide) ?_
        have h9 := ih4 (k + 1) (by omega)
        rw [show anoN σ p (k + 1) = true from by simp [anoN, zc1]] at h9
        exact h9
      · skip
        refine j_iload_n 18 cx 0 dX6_isAnotherLeft_18 rfl ?_
        refine j_iload_n 19 cx 2 dX6_isAnotherLeft_19 rfl ?_
        refine j_icmp_eq 20 cx 35 dX6_isAnotherLeft_20 (by decide) (fun zc2 => ?_) (fun zc2 => ?_)
        · skip
          refine j_iconst 35 cx 0 dX6_isAnotherLeft_35 (by decide) ?_
          refine j_istore_n 36 cx [(2, .int 0), (3, .int (nI k)), (1, .int (nI p)), (0, .ref o)] dX6_isAnotherLeft_36 (by decide) rfl ?_
          refine j_iinc 37 cx [(3, .int (nI (k + 1))), (2, .int 0), (1, .int (nI p)), (0, .ref o)] 1 (nI (k + 1)) dX6_isAnotherLeft_37 rfl (iinc1 k) (by decide) rfl ?_
          refine j_goto 40 cx 4 dX6_isAnotherLeft_40 (by decide) ?_
          have h9 := ih4 (k + 1) (by omega)
          rw [show anoN σ p (k + 1) = false from by rw [anoN, zc1]; simp [(nI_eq (by omega) (by omega)).mp zc2]] at h9
          exact h9
        · skip
          refine j_aload_n 23 cx 3 dX6_isAnotherLeft_23 rfl ?_
          refine j_iload_n 24 cx 0 dX6_isAnotherLeft_24 rfl ?_
          refine j_callV_i 25 cx 1 [0, 1] [.int (nI k)] (fun _ => wMO o am ik la tn tk be an va bd ++ [((am 0), .inl (gI G, 51, .inl (mm σ)))]) (c_X6_isDone (kl K) G o am ik la tn tk be an va bd σ k (by omega) ) gX6_isAnotherLeft_X6_isDone rfl rfl rfl ⟨rfl, by decide, by decide, rfl⟩ ⟨Nat.le_of_ble_eq_true rfl, Nat.le_of_ble_eq_true rfl⟩ ⟨Nat.zero_le _, Nat.zero_le _⟩ rfl (by decide) (ci := 5) 0 rfl rfl rfl rfl rfl (Nat.le_of_ble_eq_true rfl) dX6_isAnotherLeft_25 (fun _ => rfl) (fun zu1 zk1 => ?_)
          refine j_top (bI (done σ k)) rfl ?_
          refine j_ifB_ne 28 cx 35 dX6_isAnotherLeft_28 (by decide) (fun zc3 => ?_) (fun zc3 => ?_)
          · skip
            refine j_iconst 35 cx 0 dX6_isAnotherLeft_35 (by decide) ?_
            refine j_istore_n 36 cx [(2, .int 0), (3, .int (nI k)), (1, .int (nI p)), (0, .ref o)] dX6_isAnotherLeft_36 (by decide) rfl ?_
            refine j_iinc 37 cx [(3, .int (nI (k + 1))), (2, .int 0), (1, .int (nI p)), (0, .ref o)] 1 (nI (k + 1)) dX6_isAnotherLeft_37 rfl (iinc1 k) (by decide) rfl ?_
            refine j_goto 40 cx 4 dX6_isAnotherLeft_40 (by decide) ?_
            have h9 := ih4 (k + 1) (by omega)
            rw [show anoN σ p (k + 1) = false from by rw [anoN, zc1]; simp [mt (nI_eq (by omega) (by omega)).mpr zc2, zc3]] at h9
            exact h9
          · skip
            refine j_iconst 31 cx 1 dX6_isAnotherLeft_31 (by decide) ?_
            refine j_goto 32 cx 36 dX6_isAnotherLeft_32 (by decide) ?_
            refine j_istore_n 36 cx [(2, .int 1), (3, .int (nI k)), (1, .int (nI p)), (0, .ref o)] dX6_isAnotherLeft_36 (by decide) rfl ?_
            refine j_iinc 37 cx [(3, .int (nI (k + 1))), (2, .int 1), (1, .int (nI p)), (0, .ref o)] 1 (nI (k + 1)) dX6_isAnotherLeft_37 rfl (iinc1 k) (by decide) rfl ?_
            refine j_goto 40 cx 4 dX6_isAnotherLeft_40 (by decide) ?_
            have h9 := ih4 (k + 1) (by omega)
            rw [show anoN σ p (k + 1) = true from by rw [anoN, zc1]; simp [mt (nI_eq (by omega) (by omega)).mpr zc2, zc3]] at h9
            exact h9
  refine j_lv [0, 1, 3, 2] rfl ?_
  exact L4 (szN σ) 0 (by omega)
set_option maxRecDepth 100000 in
set_option maxHeartbeats 4000000 in
theorem c_X6_calls (l : Launch) (G : pG) (o : Nat) (am : Nat → Nat) (ik : Bool) (la tn tk be an va : Int32) (bd : Bool) (σ : Nu) (p : Nat) (hI : Inv σ) (hp : p < 8) : KI l G yX6_calls wsX6_calls ({ frames := 4, cells := 0, slots := 0, locals := 88 } : Room) [.ref o, .int (nI p)] (wMO o am ik la tn tk be an va bd ++ [((am 0), .inl (gI G, 51, .inl (mm σ)))]) (S := Unit) (fun _ => True) (fun u => callF σ p) (fun u => wMO o am ik la tn tk be an va bd ++ [((am 0), .inl (gI G, 51, .inl (mm σ)))]) := by
  refine ki_of [(0, .ref o), (1, .int (nI p))] (own := RX6) (cc := cX6_calls) (nL := 4) (by decide +kernel) rfl rfl (Nat.le_of_ble_eq_true rfl) rfl (fun _ => rfl) (fun K cx fin => ?_)
  refine j_bipush 0 cx 50 dX6_calls_0 (by decide) ?_
  refine j_aload_n 2 cx 0 dX6_calls_2 rfl ?_
  refine j_get 3 cx 0 0 (T := TX6) (v := .ref ((am 0))) (fun _ h => List.mem_cons_of_mem _ (List.mem_append_right _ (h))) (List.mem_of_getElem? (i := 1) rfl) (ci := 5) rfl (by decide) rfl rfl rfl dX6_calls_3 ?_
  refine j_iconst 6 cx 0 dX6_calls_6 (by decide) ?_
  refine j_iald 7 cx 1 0 rfl rfl (by omega) (by decide) dX6_calls_7 ?_
  refine j_top (σ 0 0) rfl ?_
  refine j_iadd 8 cx dX6_calls_8 ?_
  refine j_aload_n 9 cx 0 dX6_calls_9 rfl ?_
  refine j_iload_n 10 cx 1 dX6_calls_10 rfl ?_
  refine j_iconst 11 cx 3 dX6_calls_11 (by decide) ?_
  refine j_callV_i 12 cx 2 [0, 1] [.int (nI p), .int 3] (fun _ => wMO o am ik la tn tk be an va bd ++ [((am 0), .inl (gI G, 51, .inl (mm σ)))]) (c_X6_it (kl K) G o am ik la tn tk be an va bd σ p 3 (by omega) (by omega) ) gX6_calls_X6_it rfl rfl rfl ⟨rfl, by decide, by decide, rfl⟩ ⟨Nat.le_of_ble_eq_true rfl, Nat.le_of_ble_eq_true rfl⟩ ⟨Nat.zero_le _, Nat.zero_le _⟩ rfl (by decide) (ci := 5) 0 rfl rfl rfl rfl rfl (Nat.le_of_ble_eq_true rfl) dX6_calls_12 (fun _ => rfl) (fun zu1 zk1 => ?_)
  refine j_top (σ 5 p) rfl ?_
  refine j_isub 15 cx dX6_calls_15 ?_
  refine j_istore_n 16 cx [(2, .int ((50 + (σ 0 0)) - (σ 5 p))), (0, .ref o), (1, .int (nI p))] dX6_calls_16 (by decide) rfl ?_
  refine j_iload_n 17 cx 0 dX6_calls_17 rfl ?_
  refine j_istore_n 18 cx [(3, .int ((50 + (σ 0 0)) - (σ 5 p))), (2, .int ((50 + (σ 0 0)) - (σ 5 p))), (0, .ref o), (1, .int (nI p))] dX6_calls_18 (by decide) rfl ?_
  refine j_aload_n 19 cx 2 dX6_calls_19 rfl ?_
  refine j_iload_n 20 cx 3 dX6_calls_20 rfl ?_
  refine j_iconst 21 cx 0 dX6_calls_21 (by decide) ?_
  refine j_callV_i 22 cx 2 [0, 1] [.int (nI p), .int 0] (fun _ => wMO o am ik la tn tk be an va bd ++ [((am 0), .inl (gI G, 51, .inl (mm σ)))]) (c_X6_it (kl K) G o am ik la tn tk be an va bd σ p 0 (by omega) (by omega) ) gX6_calls_X6_it rfl rfl rfl ⟨rfl, by decide, by decide, rfl⟩ ⟨Nat.le_of_ble_eq_true rfl, Nat.le_of_ble_eq_true rfl⟩ ⟨Nat.zero_le _, Nat.zero_le _⟩ rfl (by decide) (ci := 5) 0 rfl rfl rfl rfl rfl (Nat.le_of_ble_eq_true rfl) dX6_calls_22 (fun _ => rfl) (fun zu2 zk2 => ?_)
  refine j_top (σ 2 p) rfl ?_
  by_cases zc1 : σ 2 p = 1
  · skip
    refine j_tableIn 25 cx 60 (1) dX6_calls_25 zc1 (by decide) (by decide) (by decide) rfl (by decide) ?_
    refine j_iload_n 60 cx 1 dX6_calls_60 rfl ?_
    refine j_aload_n 61 cx 2 dX6_calls_61 rfl ?_
    refine j_iload_n 62 cx 3 dX6_calls_62 rfl ?_
    refine j_iconst 63 cx 1 dX6_calls_63 (by decide) ?_
    refine j_callV_i 64 cx 2 [0, 1] [.int (nI p), .int 1] (fun _ => wMO o am ik la tn tk be an va bd ++ [((am 0), .inl (gI G, 51, .inl (mm σ)))]) (c_X6_it (kl K) G o am ik la tn tk be an va bd σ p 1 (by omega) (by omega) ) gX6_calls_X6_it rfl rfl rfl ⟨rfl, by decide, by decide, rfl⟩ ⟨Nat.le_of_ble_eq_true rfl, Nat.le_of_ble_eq_true rfl⟩ ⟨Nat.zero_le _, Nat.zero_le _⟩ rfl (by decide) (ci := 5) 0 rfl rfl rfl rfl rfl (Nat.le_of_ble_eq_true rfl) dX6_calls_64 (fun _ => rfl) (fun zu3 zk3 => ?_)
    refine j_top (σ 3 p) rfl ?_
    refine j_iadd 67 cx dX6_calls_67 ?_
    refine j_istore_n 68 cx [(3, .int (((50 + (σ 0 0)) - (σ 5 p)) + (σ 3 p))), (2, .int ((50 + (σ 0 0)) - (σ 5 p))), (0, .ref o), (1, .int (nI p))] dX6_calls_68 (by decide) rfl ?_
    refine j_goto 69 cx 131 dX6_calls_69 (by decide) ?_
    refine j_iload_n 131 cx 0 dX6_calls_131 rfl ?_
    refine j_if_ge 132 cx 139 dX6_calls_132 (by decide) (fun zc2 => ?_) (fun zc2 => ?_)
    · skip
      refine j_iload_n 139 cx 0 dX6_calls_139 rfl ?_
      exact fin () _ _ _ _ dX6_calls_140 rfl ((mx0_ge zc2).symm.trans (by simp [callF, kCalls, i_asa, zc1])) rfl trivial
    · skip
      refine j_iconst 135 cx 0 dX6_calls_135 (by decide) ?_
      refine j_goto 136 cx 140 dX6_calls_136 (by decide) ?_
      exact fin () _ _ _ _ dX6_calls_140 rfl ((mx0_lt zc2).symm.trans (by simp [callF, kCalls, i_asa, zc1])) rfl trivial
  · skip
    by_cases zc3 : σ 2 p = 2
    · skip
      refine j_tableIn 25 cx 72 (2) dX6_calls_25 zc3 (by decide) (by decide) (by decide) rfl (by decide) ?_
      refine j_iload_n 72 cx 1 dX6_calls_72 rfl ?_
      refine j_iconst 73 cx 5 dX6_calls_73 (by decide) ?_
      refine j_isub 74 cx dX6_calls_74 ?_
      refine j_istore_n 75 cx [(3, .int (((50 + (σ 0 0)) - (σ 5 p)) - 5)), (2, .int ((50 + (σ 0 0)) - (σ 5 p))), (0, .ref o), (1, .int (nI p))] dX6_calls_75 (by decide) rfl ?_
      refine j_goto 76 cx 131 dX6_calls_76 (by decide) ?_
      refine j_iload_n 131 cx 0 dX6_calls_131 rfl ?_
      refine j_if_ge 132 cx 139 dX6_calls_132 (by decide) (fun zc4 => ?_) (fun zc4 => ?_)
      · skip
        refine j_iload_n 139 cx 0 dX6_calls_139 rfl ?_
        exact fin () _ _ _ _ dX6_calls_140 rfl ((mx0_ge zc4).symm.trans (by simp [callF, kCalls, i_asa, zc1, zc3])) rfl trivial
      · skip
        refine j_iconst 135 cx 0 dX6_calls_135 (by decide) ?_
        refine j_goto 136 cx 140 dX6_calls_136 (by decide) ?_
        exact fin () _ _ _ _ dX6_calls_140 rfl ((mx0_lt zc4).symm.trans (by simp [callF, kCalls, i_asa, zc1, zc3])) rfl trivial
    · skip
      by_cases zc5 : σ 2 p = 3
      · skip
        refine j_tableIn 25 cx 79 (3) dX6_calls_25 zc5 (by decide) (by decide) (by decide) rfl (by decide) ?_
        refine j_bipush 79 cx 60 dX6_calls_79 (by decide) ?_
        refine j_istore_n 81 cx [(3, .int 60), (2, .int ((50 + (σ 0 0)) - (σ 5 p))), (0, .ref o), (1, .int (nI p))] dX6_calls_81 (by decide) rfl ?_
        refine j_goto 82 cx 131 dX6_calls_82 (by decide) ?_
        refine j_iload_n 131 cx 0 dX6_calls_131 rfl ?_
        refine j_if_ge_T 132 cx 139 dX6_calls_132 (by decide) (by decide) ?_
        refine j_iload_n 139 cx 0 dX6_calls_139 rfl ?_
        exact fin () _ _ _ _ dX6_calls_140 rfl (by simp [callF, kCalls, i_asa, zc1, zc3, zc5]) rfl trivial
      · skip
        by_cases zc6 : σ 2 p = 4
        · skip
          refine j_tableIn 25 cx 85 (4) dX6_calls_25 zc6 (by decide) (by decide) (by decide) rfl (by decide) ?_
          refine j_aload_n 85 cx 2 dX6_calls_85 rfl ?_
          refine j_get 86 cx 0 0 (T := TX6) (v := .ref ((am 0))) (fun _ h => List.mem_cons_of_mem _ (List.mem_append_right _ (h))) (List.mem_of_getElem? (i := 1) rfl) (ci := 5) rfl (by decide) rfl rfl rfl dX6_calls_86 ?_
          refine j_iconst 89 cx 1 dX6_calls_89 (by decide) ?_
          refine j_iald 90 cx 1 1 rfl rfl (by omega) (by decide) dX6_calls_90 ?_
          refine j_top (σ 0 1) rfl ?_
          refine j_bipush 91 cx 50 dX6_calls_91 (by decide) ?_
          refine j_icmp_le 93 cx 100 dX6_calls_93 (by decide) (fun zc7 => ?_) (fun zc7 => ?_)
          · skip
            refine j_iload_n 100 cx 1 dX6_calls_100 rfl ?_
            refine j_aload_n 101 cx 2 dX6_calls_101 rfl ?_
            refine j_iload_n 102 cx 3 dX6_calls_102 rfl ?_
            refine j_iconst 103 cx 1 dX6_calls_103 (by decide) ?_
            refine j_callV_i 104 cx 2 [0, 1] [.int (nI p), .int 1] (fun _ => wMO o am ik la tn tk be an va bd ++ [((am 0), .inl (gI G, 51, .inl (mm σ)))]) (c_X6_it (kl K) G o am ik la tn tk be an va bd σ p 1 (by omega) (by omega) ) gX6_calls_X6_it rfl rfl rfl ⟨rfl, by decide, by decide, rfl⟩ ⟨Nat.le_of_ble_eq_true rfl, Nat.le_of_ble_eq_true rfl⟩ ⟨Nat.zero_le _, Nat.zero_le _⟩ rfl (by decide) (ci := 5) 0 rfl rfl rfl rfl rfl (Nat.le_of_ble_eq_true rfl) dX6_calls_104 (fun _ => rfl) (fun zu4 zk4 => ?_)
            refine j_top (σ 3 p) rfl ?_
            refine j_iadd 107 cx dX6_calls_107 ?_
            refine j_istore_n 108 cx [(3, .int (((50 + (σ 0 0)) - (σ 5 p)) + (σ 3 p))), (2, .int ((50 + (σ 0 0)) - (σ 5 p))), (0, .ref o), (1, .int (nI p))] dX6_calls_108 (by decide) rfl ?_
            refine j_goto 109 cx 131 dX6_calls_109 (by decide) ?_
            refine j_iload_n 131 cx 0 dX6_calls_131 rfl ?_
            refine j_if_ge 132 cx 139 dX6_calls_132 (by decide) (fun zc8 => ?_) (fun zc8 => ?_)
            · skip
              refine j_iload_n 139 cx 0 dX6_calls_139 rfl ?_
              exact fin () _ _ _ _ dX6_calls_140 rfl ((mx0_ge zc8).symm.trans (by simp [callF, kCalls, i_asa, zc1, zc3, zc5, zc6, Int32.not_lt.mpr zc7])) rfl trivial
            · skip
              refine j_iconst 135 cx 0 dX6_calls_135 (by decide) ?_
              refine j_goto 136 cx 140 dX6_calls_136 (by decide) ?_
              exact fin () _ _ _ _ dX6_calls_140 rfl ((mx0_lt zc8).symm.trans (by simp [callF, kCalls, i_asa, zc1, zc3, zc5, zc6, Int32.not_lt.mpr zc7])) rfl trivial
          · skip
            refine j_iconst 96 cx 0 dX6_calls_96 (by decide) ?_
            refine j_goto 97 cx 108 dX6_calls_97 (by decide) ?_
            refine j_istore_n 108 cx [(3, .int 0), (2, .int ((50 + (σ 0 0)) - (σ 5 p))), (0, .ref o), (1, .int (nI p))] dX6_calls_108 (by decide) rfl ?_
            refine j_goto 109 cx 131 dX6_calls_109 (by decide) ?_
            refine j_iload_n 131 cx 0 dX6_calls_131 rfl ?_
            refine j_if_ge_T 132 cx 139 dX6_calls_132 (by decide) (by decide) ?_
            refine j_iload_n 139 cx 0 dX6_calls_139 rfl ?_
            exact fin () _ _ _ _ dX6_calls_140 rfl (by simp [callF, kCalls, i_asa, zc1, zc3, zc5, zc6, Int32.not_le.mp zc7]) rfl trivial
        · skip
          by_cases zc9 : σ 2 p = 5
          · skip
            refine j_tableIn 25 cx 112 (5) dX6_calls_25 zc9 (by decide) (by decide) (by decide) rfl (by decide) ?_
            refine j_aload_n 112 cx 2 dX6_calls_112 rfl ?_
            refine j_iload_n 113 cx 3 dX6_calls_113 rfl ?_
            refine j_callV_i 114 cx 1 [0, 1] [.int (nI p)] (fun _ => wMO o am ik la tn tk be an va bd ++ [((am 0), .inl (gI G, 51, .inl (mm σ)))]) (c_X6_isAnotherLeft (kl K) G o am ik la tn tk be an va bd σ p hI (by omega) ) gX6_calls_X6_isAnotherLeft rfl rfl rfl ⟨rfl, by decide, by decide, rfl⟩ ⟨Nat.le_of_ble_eq_true rfl, Nat.le_of_ble_eq_true rfl⟩ ⟨Nat.zero_le _, Nat.zero_le _⟩ rfl (by decide) (ci := 5) 0 rfl rfl rfl rfl rfl (Nat.le_of_ble_eq_true rfl) dX6_calls_114 (fun _ => rfl) (fun zu5 zk5 => ?_)
            refine j_top (bI (anoN σ p (szN σ))) rfl ?_
            refine j_ifB_eq 117 cx 124 dX6_calls_117 (by decide) (fun zc10 => ?_) (fun zc10 => ?_)
            · skip
              refine j_iload_n 124 cx 1 dX6_calls_124 rfl ?_
              refine j_iconst 125 cx 5 dX6_calls_125 (by decide) ?_
              refine j_isub 126 cx dX6_calls_126 ?_
              refine j_istore_n 127 cx [(3, .int (((50 + (σ 0 0)) - (σ 5 p)) - 5)), (2, .int ((50 + (σ 0 0)) - (σ 5 p))), (0, .ref o), (1, .int (nI p))] dX6_calls_127 (by decide) rfl ?_
              refine j_goto 128 cx 131 dX6_calls_128 (by decide) ?_
              refine j_iload_n 131 cx 0 dX6_calls_131 rfl ?_
              refine j_if_ge 132 cx 139 dX6_calls_132 (by decide) (fun zc11 => ?_) (fun zc11 => ?_)
              · skip
                refine j_iload_n 139 cx 0 dX6_calls_139 rfl ?_
                exact fin () _ _ _ _ dX6_calls_140 rfl ((mx0_ge zc11).symm.trans (by simp [callF, kCalls, i_asa, zc1, zc3, zc5, zc6, zc9, zc10])) rfl trivial
              · skip
                refine j_iconst 135 cx 0 dX6_calls_135 (by decide) ?_
                refine j_goto 136 cx 140 dX6_calls_136 (by decide) ?_
                exact fin () _ _ _ _ dX6_calls_140 rfl ((mx0_lt zc11).symm.trans (by simp [callF, kCalls, i_asa, zc1, zc3, zc5, zc6, zc9, zc10])) rfl trivial
            · skip
              refine j_iconst 120 cx 1 dX6_calls_120 (by decide) ?_
              refine j_goto 121 cx 127 dX6_calls_121 (by decide) ?_
              refine j_istore_n 127 cx [(3, .int 1), (2, .int ((50 + (σ 0 0)) - (σ 5 p))), (0, .ref o), (1, .int (nI p))] dX6_calls_127 (by decide) rfl ?_
              refine j_goto 128 cx 131 dX6_calls_128 (by decide) ?_
              refine j_iload_n 131 cx 0 dX6_calls_131 rfl ?_
              refine j_if_ge_T 132 cx 139 dX6_calls_132 (by decide) (by decide) ?_
              refine j_iload_n 139 cx 0 dX6_calls_139 rfl ?_
              exact fin () _ _ _ _ dX6_calls_140 rfl (by simp [callF, kCalls, i_asa, zc1, zc3, zc5, zc6, zc9, zc10]) rfl trivial
          · skip
            refine j_tableOut 25 cx 131 dX6_calls_25 (tb_out (fun z h1 h2 => by
                have hz : z = 1 ∨ z = 2 ∨ z = 3 ∨ z = 4 ∨ z = 5 := by omega
                rcases hz with rfl | rfl | rfl | rfl | rfl
                · exact ne_ti zc1 (by decide)
                · exact ne_ti zc3 (by decide)
                · exact ne_ti zc5 (by decide)
                · exact ne_ti zc6 (by decide)
                · exact ne_ti zc9 (by decide))) (by decide) ?_
            refine j_iload_n 131 cx 0 dX6_calls_131 rfl ?_
            refine j_if_ge 132 cx 139 dX6_calls_132 (by decide) (fun zc12 => ?_) (fun zc12 => ?_)
            · skip
              refine j_iload_n 139 cx 0 dX6_calls_139 rfl ?_
              exact fin () _ _ _ _ dX6_calls_140 rfl ((mx0_ge zc12).symm.trans (by simp [callF, kCalls, i_asa, zc1, zc3, zc5, zc6, zc9])) rfl trivial
            · skip
              refine j_iconst 135 cx 0 dX6_calls_135 (by decide) ?_
              refine j_goto 136 cx 140 dX6_calls_136 (by decide) ?_
              exact fin () _ _ _ _ dX6_calls_140 rfl ((mx0_lt zc12).symm.trans (by simp [callF, kCalls, i_asa, zc1, zc3, zc5, zc6, zc9])) rfl trivial
set_option maxRecDepth 100000 in
set_option maxHeartbeats 4000000 in
theorem c_X6_loudest (l : Launch) (G : pG) (o : Nat) (am : Nat → Nat) (ik : Bool) (la tn tk be an va : Int32) (bd : Bool) (σ : Nu) (hI : Inv σ) : KI l G yX6_loudest wsX6_loudest ({ frames := 5, cells := 0, slots := 0, locals := 111 } : Room) [.ref o] (wMO o am ik la tn tk be an va bd ++ [((am 0), .inl (gI G, 51, .inl (mm σ)))]) (S := Unit) (fun _ => True) (fun u => oI (loud σ)) (fun u => wMO o am ik la tn tk be an va bd ++ [((am 0), .inl (gI G, 51, .inl (mm σ)))]) := by
  have h8 := hI.sz8
  refine ki_of [(0, .ref o)] (own := RX6) (cc := cX6_loudest) (nL := 5) (by decide +kernel) rfl rfl (Nat.le_of_ble_eq_true rfl) rfl (fun _ => rfl) (fun K cx fin => ?_)
  refine j_iconst 0 cx (-1) dX6_loudest_0 (by decide) ?_
  refine j_istore_n 1 cx [(1, .int ((-1))), (0, .ref o)] dX6_loudest_1 (by decide) rfl ?_
  refine j_iconst 2 cx 0 dX6_loudest_2 (by decide) ?_
  refine j_istore_n 3 cx [(2, .int 0), (1, .int ((-1))), (0, .ref o)] dX6_loudest_3 (by decide) rfl ?_
  refine j_iconst 4 cx 0 dX6_loudest_4 (by decide) ?_
  refine j_istore_n 5 cx [(3, .int 0), (2, .int 0), (1, .int ((-1))), (0, .ref o)] dX6_loudest_5 (by decide) rfl ?_
  have L6 : ∀ d : Nat, ∀ (k : Nat), (k + d = szN σ) → JJ G K 0 0 (wMO o am ik la tn tk be an va bd ++ [((am 0), .inl (gI G, 51, .inl (mm σ)))]) [(3, .int (nI k)), (2, .int ((loudS σ k).2)), (1, .int (oI (loudS σ k).1)), (0, .ref o)] 6 [] := by
    intro d
    induction d with
    | zero =>
      intro k hk
      refine j_iload_n 6 cx 0 dX6_loudest_6 rfl ?_
      refine j_aload_n 7 cx 3 dX6_loudest_7 rfl ?_
      refine j_get 8 cx 0 0 (T := TX6) (v := .ref ((am 0))) (fun _ h => List.mem_cons_of_mem _ (List.mem_append_right _ (h))) (List.mem_of_getElem? (i := 1) rfl) (ci := 5) rfl (by decide) rfl rfl rfl dX6_loudest_8 ?_
      refine j_iconst 11 cx 3 dX6_loudest_11 (by decide) ?_
      refine j_iald 12 cx 1 3 rfl rfl (by omega) (by decide) dX6_loudest_12 ?_
      refine j_top (σ 0 3) rfl ?_
      refine j_top (nI (szN σ)) hI.sz ?_
      refine j_icmp_ge_T 13 cx 75 dX6_loudest_13 (by decide) (nI_le (by omega) (by omega)) ?_
      refine j_iload_n 75 cx 2 dX6_loudest_75 rfl ?_
      exact fin () _ _ _ _ dX6_loudest_76 rfl (by rw [loud, show k = szN σ from by omega]) rfl trivial
    | succ d ih6 =>
      intro k hk
      refine j_iload_n 6 cx 0 dX6_loudest_6 rfl ?_
      refine j_aload_n 7 cx 3 dX6_loudest_7 rfl ?_
      refine j_get 8 cx 0 0 (T := TX6) (v := .ref ((am 0))) (fun _ h => List.mem_cons_of_mem _ (List.mem_append_right _ (h))) (List.mem_of_getElem? (i := 1) rfl) (ci := 5) rfl (by decide) rfl rfl rfl dX6_loudest_8 ?_
      refine j_iconst 11 cx 3 dX6_loudest_11 (by decide) ?_
      refine j_iald 12 cx 1 3 rfl rfl (by omega) (by decide) dX6_loudest_12 ?_
      refine j_top (σ 0 3) rfl ?_
      refine j_top (nI (szN σ)) hI.sz ?_
      refine j_icmp_ge_F 13 cx 75 dX6_loudest_13 (by decide) (nI_ge (by omega) (by omega)) ?_
      refine j_aload_n 16 cx 3 dX6_loudest_16 rfl ?_
      refine j_iload_n 17 cx 0 dX6_loudest_17 rfl ?_
      refine j_callV_i 18 cx 1 [0, 1] [.int (nI k)] (fun _ => wMO o am ik la tn tk be an va bd ++ [((am 0), .inl (gI G, 51, .inl (mm σ)))]) (c_X6_isDone (kl K) G o am ik la tn tk be an va bd σ k (by omega) ) gX6_loudest_X6_isDone rfl rfl rfl ⟨rfl, by decide, by decide, rfl⟩ ⟨Nat.le_of_ble_eq_true rfl, Nat.le_of_ble_eq_true rfl⟩ ⟨Nat.zero_le _, Nat.zero_le _⟩ rfl (by decide) (ci := 5) 0 rfl rfl rfl rfl rfl (Nat.le_of_ble_eq_true rfl) dX6_loudest_18 (fun _ => rfl) (fun zu1 zk1 => ?_)
      refine j_top (bI (done σ k)) rfl ?_
      refine j_ifB_ne 21 cx 33 dX6_loudest_21 (by decide) (fun zc1 => ?_) (fun zc1 => ?_)
      · skip
        refine j_iconst 33 cx 0 dX6_loudest_33 (by decide) ?_
        refine j_goto 34 cx 42 dX6_loudest_34 (by decide) ?_
        refine j_istore 42 cx [(4, .int 0), (3, .int (nI k)), (2, .int ((loudS σ k).2)), (1, .int (oI (loudS σ k).1)), (0, .ref o)] dX6_loudest_42 (by decide) rfl ?_
        refine j_iload 44 cx 0 dX6_loudest_44 rfl ?_
        refine j_iload_n 46 cx 2 dX6_loudest_46 rfl ?_
        refine j_icmp_le_T 47 cx 54 dX6_loudest_47 (by decide) (loudS_pos σ k) ?_
        refine j_iload_n 54 cx 3 dX6_loudest_54 rfl ?_
        refine j_istore_n 55 cx [(1, .int (oI (loudS σ k).1)), (4, .int 0), (3, .int (nI k)), (2, .int ((loudS σ k).2)), (0, .ref o)] dX6_loudest_55 (by decide) rfl ?_
        refine j_iload 56 cx 1 dX6_loudest_56 rfl ?_
        refine j_iload_n 58 cx 3 dX6_loudest_58 rfl ?_
        refine j_icmp_le_T 59 cx 67 dX6_loudest_59 (by decide) (loudS_pos σ k) ?_
        refine j_iload_n 67 cx 3 dX6_loudest_67 rfl ?_
        refine j_istore_n 68 cx [(2, .int ((loudS σ k).2)), (1, .int (oI (loudS σ k).1)), (4, .int 0), (3, .int (nI k)), (0, .ref o)] dX6_loudest_68 (by decide) rfl ?_
        refine j_iinc 69 cx [(3, .int (nI (k + 1))), (2, .int ((loudS σ k).2)), (1, .int (oI (loudS σ k).1)), (4, .int 0), (0, .ref o)] 3 (nI (k + 1)) dX6_loudest_69 rfl (iinc1 k) (by decide) rfl ?_
        refine j_goto 72 cx 6 dX6_loudest_72 (by decide) ?_
        refine j_lv [0, 1, 2, 4] rfl ?_
        have h9 := ih6 (k + 1) (by omega)
        rw [loudS_skip (Or.inl zc1)] at h9
        exact h9
      · skip
        refine j_aload_n 24 cx 3 dX6_loudest_24 rfl ?_
        refine j_iload_n 25 cx 0 dX6_loudest_25 rfl ?_
        refine j_iconst 26 cx 4 dX6_loudest_26 (by decide) ?_
        refine j_callV_i 27 cx 2 [0, 1] [.int (nI k), .int 4] (fun _ => wMO o am ik la tn tk be an va bd ++ [((am 0), .inl (gI G, 51, .inl (mm σ)))]) (c_X6_it (kl K) G o am ik la tn tk be an va bd σ k 4 (by omega) (by omega) ) gX6_loudest_X6_it rfl rfl rfl ⟨rfl, by decide, by decide, rfl⟩ ⟨Nat.le_of_ble_eq_true rfl, Nat.le_of_ble_eq_true rfl⟩ ⟨Nat.zero_le _, Nat.zero_le _⟩ rfl (by decide) (ci := 5) 0 rfl rfl rfl rfl rfl (Nat.le_of_ble_eq_true rfl) dX6_loudest_27 (fun _ => rfl) (fun zu2 zk2 => ?_)
        refine j_top (σ 6 k) rfl ?_
        refine j_if_le 30 cx 37 dX6_loudest_30 (by decide) (fun zc2 => ?_) (fun zc2 => ?_)
        · skip
          refine j_aload_n 37 cx 3 dX6_loudest_37 rfl ?_
          refine j_iload_n 38 cx 0 dX6_loudest_38 rfl ?_
          refine j_callV_i 39 cx 1 [0, 1] [.int (nI k)] (fun _ => wMO o am ik la tn tk be an va bd ++ [((am 0), .inl (gI G, 51, .inl (mm σ)))]) (c_X6_calls (kl K) G o am ik la tn tk be an va bd σ k hI (by omega) ) gX6_loudest_X6_calls rfl rfl rfl ⟨rfl, by decide, by decide, rfl⟩ ⟨Nat.le_of_ble_eq_true rfl, Nat.le_of_ble_eq_true rfl⟩ ⟨Nat.zero_le _, Nat.zero_le _⟩ rfl (by decide) (ci := 5) 0 rfl rfl rfl rfl rfl (Nat.le_of_ble_eq_true rfl) dX6_loudest_39 (fun _ => rfl) (fun zu3 zk3 => ?_)
          refine j_top (callF σ k) rfl ?_
          refine j_istore 42 cx [(4, .int (callF σ k)), (3, .int (nI k)), (2, .int ((loudS σ k).2)), (1, .int (oI (loudS σ k).1)), (0, .ref o)] dX6_loudest_42 (by decide) rfl ?_
          refine j_iload 44 cx 0 dX6_loudest_44 rfl ?_
          refine j_iload_n 46 cx 2 dX6_loudest_46 rfl ?_
          refine j_icmp_le 47 cx 54 dX6_loudest_47 (by decide) (fun zc3 => ?_) (fun zc3 => ?_)
          · skip
            refine j_iload_n 54 cx 3 dX6_loudest_54 rfl ?_
            refine j_istore_n 55 cx [(1, .int (oI (loudS σ k).1)), (4, .int (callF σ k)), (3, .int (nI k)), (2, .int ((loudS σ k).2)), (0, .ref o)] dX6_loudest_55 (by decide) rfl ?_
            refine j_iload 56 cx 1 dX6_loudest_56 rfl ?_
            refine j_iload_n 58 cx 3 dX6_loudest_58 rfl ?_
            refine j_icmp_le_T 59 cx 67 dX6_loudest_59 (by decide) zc3 ?_
            refine j_iload_n 67 cx 3 dX6_loudest_67 rfl ?_
            refine j_istore_n 68 cx [(2, .int ((loudS σ k).2)), (1, .int (oI (loudS σ k).1)), (4, .int (callF σ k)), (3, .int (nI k)), (0, .ref o)] dX6_loudest_68 (by decide) rfl ?_
            refine j_iinc 69 cx [(3, .int (nI (k + 1))), (2, .int ((loudS σ k).2)), (1, .int (oI (loudS σ k).1)), (4, .int (callF σ k)), (0, .ref o)] 3 (nI (k + 1)) dX6_loudest_69 rfl (iinc1 k) (by decide) rfl ?_
            refine j_goto 72 cx 6 dX6_loudest_72 (by decide) ?_
            refine j_lv [0, 1, 2, 4] rfl ?_
            have h9 := ih6 (k + 1) (by omega)
            rw [loudS_low zc1 (off_0 hI zc2) (Int32.not_lt.mpr zc3)] at h9
            exact h9
          · skip
            refine j_iload_n 50 cx 1 dX6_loudest_50 rfl ?_
            refine j_goto 51 cx 55 dX6_loudest_51 (by decide) ?_
            refine j_istore_n 55 cx [(1, .int (nI k)), (4, .int (callF σ k)), (3, .int (nI k)), (2, .int ((loudS σ k).2)), (0, .ref o)] dX6_loudest_55 (by decide) rfl ?_
            refine j_iload 56 cx 1 dX6_loudest_56 rfl ?_
            refine j_iload_n 58 cx 3 dX6_loudest_58 rfl ?_
            refine j_icmp_le_F 59 cx 67 dX6_loudest_59 (by decide) zc3 ?_
            refine j_iload 62 cx 1 dX6_loudest_62 rfl ?_
            refine j_goto 64 cx 68 dX6_loudest_64 (by decide) ?_
            refine j_istore_n 68 cx [(2, .int (callF σ k)), (1, .int (nI k)), (4, .int (callF σ k)), (3, .int (nI k)), (0, .ref o)] dX6_loudest_68 (by decide) rfl ?_
            refine j_iinc 69 cx [(3, .int (nI (k + 1))), (2, .int (callF σ k)), (1, .int (nI k)), (4, .int (callF σ k)), (0, .ref o)] 3 (nI (k + 1)) dX6_loudest_69 rfl (iinc1 k) (by decide) rfl ?_
            refine j_goto 72 cx 6 dX6_loudest_72 (by decide) ?_
            refine j_lv [0, 1, 2, 4] rfl ?_
            have h9 := ih6 (k + 1) (by omega)
            rw [loudS_loud zc1 (off_0 hI zc2) (Int32.not_le.mp zc3)] at h9
            exact h9
        · skip
          refine j_iconst 33 cx 0 dX6_loudest_33 (by decide) ?_
          refine j_goto 34 cx 42 dX6_loudest_34 (by decide) ?_
          refine j_istore 42 cx [(4, .int 0), (3, .int (nI k)), (2, .int ((loudS σ k).2)), (1, .int (oI (loudS σ k).1)), (0, .ref o)] dX6_loudest_42 (by decide) rfl ?_
          refine j_iload 44 cx 0 dX6_loudest_44 rfl ?_
          refine j_iload_n 46 cx 2 dX6_loudest_46 rfl ?_
          refine j_icmp_le_T 47 cx 54 dX6_loudest_47 (by decide) (loudS_pos σ k) ?_
          refine j_iload_n 54 cx 3 dX6_loudest_54 rfl ?_
          refine j_istore_n 55 cx [(1, .int (oI (loudS σ k).1)), (4, .int 0), (3, .int (nI k)), (2, .int ((loudS σ k).2)), (0, .ref o)] dX6_loudest_55 (by decide) rfl ?_
          refine j_iload 56 cx 1 dX6_loudest_56 rfl ?_
          refine j_iload_n 58 cx 3 dX6_loudest_58 rfl ?_
          refine j_icmp_le_T 59 cx 67 dX6_loudest_59 (by decide) (loudS_pos σ k) ?_
          refine j_iload_n 67 cx 3 dX6_loudest_67 rfl ?_
          refine j_istore_n 68 cx [(2, .int ((loudS σ k).2)), (1, .int (oI (loudS σ k).1)), (4, .int 0), (3, .int (nI k)), (0, .ref o)] dX6_loudest_68 (by decide) rfl ?_
          refine j_iinc 69 cx [(3, .int (nI (k + 1))), (2, .int ((loudS σ k).2)), (1, .int (oI (loudS σ k).1)), (4, .int 0), (0, .ref o)] 3 (nI (k + 1)) dX6_loudest_69 rfl (iinc1 k) (by decide) rfl ?_
          refine j_goto 72 cx 6 dX6_loudest_72 (by decide) ?_
          refine j_lv [0, 1, 2, 4] rfl ?_
          have h9 := ih6 (k + 1) (by omega)
          rw [loudS_skip (Or.inr (off_n zc2))] at h9
          exact h9
  exact L6 (szN σ) 0 (by omega)
set_option maxRecDepth 100000 in
set_option maxHeartbeats 4000000 in
theorem c_X6_doneOnes (l : Launch) (G : pG) (o : Nat) (am : Nat → Nat) (ik : Bool) (la tn tk be an va : Int32) (bd : Bool) (σ : Nu) (hI : Inv σ) : KI l G yX6_doneOnes wsX6_doneOnes ({ frames := 3, cells := 0, slots := 0, locals := 65 } : Room) [.ref o] (wMO o am ik la tn tk be an va bd ++ [((am 0), .inl (gI G, 51, .inl (mm σ)))]) (S := Unit) (fun _ => True) (fun u => setF σ (done σ) (szN σ)) (fun u => wMO o am ik la tn tk be an va bd ++ [((am 0), .inl (gI G, 51, .inl (mm σ)))]) := by
  have h8 := hI.sz8
  refine ki_of [(0, .ref o)] (own := RX6) (cc := cX6_doneOnes) (nL := 3) (by decide +kernel) rfl rfl (Nat.le_of_ble_eq_true rfl) rfl (fun _ => rfl) (fun K cx fin => ?_)
  refine j_iconst 0 cx 0 dX6_doneOnes_0 (by decide) ?_
  refine j_istore_n 1 cx [(1, .int 0), (0, .ref o)] dX6_doneOnes_1 (by decide) rfl ?_
  refine j_iconst 2 cx 0 dX6_doneOnes_2 (by decide) ?_
  refine j_istore_n 3 cx [(2, .int 0), (1, .int 0), (0, .ref o)] dX6_doneOnes_3 (by decide) rfl ?_
  have L4 : ∀ d : Nat, ∀ (k : Nat), (k + d = szN σ) → JJ G K 0 0 (wMO o am ik la tn tk be an va bd ++ [((am 0), .inl (gI G, 51, .inl (mm σ)))]) [(2, .int (nI k)), (1, .int (setF σ (done σ) k)), (0, .ref o)] 4 [] := by
    intro d
    induction d with
    | zero =>
      intro k hk
      refine j_iload_n 4 cx 0 dX6_doneOnes_4 rfl ?_
      refine j_aload_n 5 cx 2 dX6_doneOnes_5 rfl ?_
      refine j_get 6 cx 0 0 (T := TX6) (v := .ref ((am 0))) (fun _ h => List.mem_cons_of_mem _ (List.mem_append_right _ (h))) (List.mem_of_getElem? (i := 1) rfl) (ci := 5) rfl (by decide) rfl rfl rfl dX6_doneOnes_6 ?_
      refine j_iconst 9 cx 3 dX6_doneOnes_9 (by decide) ?_
      refine j_iald 10 cx 1 3 rfl rfl (by omega) (by decide) dX6_doneOnes_10 ?_
      refine j_top (σ 0 3) rfl ?_
      refine j_top (nI (szN σ)) hI.sz ?_
      refine j_icmp_ge_T 11 cx 38 dX6_doneOnes_11 (by decide) (nI_le (by omega) (by omega)) ?_
      refine j_iload_n 38 cx 1 dX6_doneOnes_38 rfl ?_
      exact fin () _ _ _ _ dX6_doneOnes_39 rfl (by rw [show k = szN σ from by omega]) rfl trivial
    | succ d ih4 =>
      intro k hk
      refine j_iload_n 4 cx 0 dX6_doneOnes_4 rfl ?_
      refine j_aload_n 5 cx 2 dX6_doneOnes_5 rfl ?_
      refine j_get 6 cx 0 0 (T := TX6) (v := .ref ((am 0))) (fun _ h => List.mem_cons_of_mem _ (List.mem_append_right _ (h))) (List.mem_of_getElem? (i := 1) rfl) (ci := 5) rfl (by decide) rfl rfl rfl dX6_doneOnes_6 ?_
      refine j_iconst 9 cx 3 dX6_doneOnes_9 (by decide) ?_
      refine j_iald 10 cx 1 3 rfl rfl (by omega) (by decide) dX6_doneOnes_10 ?_
      refine j_top (σ 0 3) rfl ?_
      refine j_top (nI (szN σ)) hI.sz ?_
      refine j_icmp_ge_F 11 cx 38 dX6_doneOnes_11 (by decide) (nI_ge (by omega) (by omega)) ?_
      refine j_iload_n 14 cx 1 dX6_doneOnes_14 rfl ?_
      refine j_aload_n 15 cx 2 dX6_doneOnes_15 rfl ?_
      refine j_iload_n 16 cx 0 dX6_doneOnes_16 rfl ?_
      refine j_callV_i 17 cx 1 [0, 1] [.int (nI k)] (fun _ => wMO o am ik la tn tk be an va bd ++ [((am 0), .inl (gI G, 51, .inl (mm σ)))]) (c_X6_isDone (kl K) G o am ik la tn tk be an va bd σ k (by omega) ) gX6_doneOnes_X6_isDone rfl rfl rfl ⟨rfl, by decide, by decide, rfl⟩ ⟨Nat.le_of_ble_eq_true rfl, Nat.le_of_ble_eq_true rfl⟩ ⟨Nat.zero_le _, Nat.zero_le _⟩ rfl (by decide) (ci := 5) 0 rfl rfl rfl rfl rfl (Nat.le_of_ble_eq_true rfl) dX6_doneOnes_17 (fun _ => rfl) (fun zu1 zk1 => ?_)
      refine j_top (bI (done σ k)) rfl ?_
      refine j_ifB_eq 20 cx 29 dX6_doneOnes_20 (by decide) (fun zc1 => ?_) (fun zc1 => ?_)
      · skip
        refine j_iconst 29 cx 0 dX6_doneOnes_29 (by decide) ?_
        refine j_ior 30 cx dX6_doneOnes_30 ?_
        refine j_top (setF σ (done σ) k) (i_or0 (setF σ (done σ) k)) ?_
        refine j_istore_n 31 cx [(1, .int (setF σ (done σ) k)), (2, .int (nI k)), (0, .ref o)] dX6_doneOnes_31 (by decide) rfl ?_
        refine j_iinc 32 cx [(2, .int (nI (k + 1))), (1, .int (setF σ (done σ) k)), (0, .ref o)] 1 (nI (k + 1)) dX6_doneOnes_32 rfl (iinc1 k) (by decide) rfl ?_
        refine j_goto 35 cx 4 dX6_doneOnes_35 (by decide) ?_
        have h9 := ih4 (k + 1) (by omega)
        rw [show setF σ (done σ) (k + 1) = setF σ (done σ) k from by simp [setF, zc1]] at h9
        exact h9
      · skip
        refine j_iconst 23 cx 1 dX6_doneOnes_23 (by decide) ?_
        refine j_iload_n 24 cx 0 dX6_doneOnes_24 rfl ?_
        refine j_ishl 25 cx dX6_doneOnes_25 ?_
        refine j_goto 26 cx 30 dX6_doneOnes_26 (by decide) ?_
        refine j_ior 30 cx dX6_doneOnes_30 ?_
        refine j_istore_n 31 cx [(1, .int ((setF σ (done σ) k) ||| (1 <<< ((nI k) &&& 31)))), (2, .int (nI k)), (0, .ref o)] dX6_doneOnes_31 (by decide) rfl ?_
        refine j_iinc 32 cx [(2, .int (nI (k + 1))), (1, .int ((setF σ (done σ) k) ||| (1 <<< ((nI k) &&& 31)))), (0, .ref o)] 1 (nI (k + 1)) dX6_doneOnes_32 rfl (iinc1 k) (by decide) rfl ?_
        refine j_goto 35 cx 4 dX6_doneOnes_35 (by decide) ?_
        have h9 := ih4 (k + 1) (by omega)
        rw [show setF σ (done σ) (k + 1) = setF σ (done σ) k ||| ((1 : Int32) <<< (nI k &&& 31)) from by simp [setF, zc1]] at h9
        exact h9
  exact L4 (szN σ) 0 (by omega)
set_option maxRecDepth 100000 in
set_option maxHeartbeats 4000000 in
theorem c_X6_behindhand (l : Launch) (G : pG) (o : Nat) (am : Nat → Nat) (ik : Bool) (la tn tk be an va : Int32) (bd : Bool) (σ : Nu) (hI : Inv σ) : KI l G yX6_behindhand wsX6_behindhand ({ frames := 3, cells := 0, slots := 0, locals := 65 } : Room) [.ref o] (wMO o am ik la tn tk be an va bd ++ [((am 0), .inl (gI G, 51, .inl (mm σ)))]) (S := Unit) (fun _ => True) (fun u => setF σ (behF σ) (szN σ)) (fun u => wMO o am ik la tn tk be an va bd ++ [((am 0), .inl (gI G, 51, .inl (mm σ)))]) := by
  have h8 := hI.sz8
  refine ki_of [(0, .ref o)] (own := RX6) (cc := cX6_behindhand) (nL := 3) (by decide +kernel) rfl rfl (Nat.le_of_ble_eq_true rfl) rfl (fun _ => rfl) (fun K cx fin => ?_)
  refine j_iconst 0 cx 0 dX6_behindhand_0 (by decide) ?_
  refine j_istore_n 1 cx [(1, .int 0), (0, .ref o)] dX6_behindhand_1 (by decide) rfl ?_
  refine j_iconst 2 cx 0 dX6_behindhand_2 (by decide) ?_
  refine j_istore_n 3 cx [(2, .int 0), (1, .int 0), (0, .ref o)] dX6_behindhand_3 (by decide) rfl ?_
  have L4 : ∀ d : Nat, ∀ (k : Nat), (k + d = szN σ) → JJ G K 0 0 (wMO o am ik la tn tk be an va bd ++ [((am 0), .inl (gI G, 51, .inl (mm σ)))]) [(2, .int (nI k)), (1, .int (setF σ (behF σ) k)), (0, .ref o)] 4 [] := by
    intro d
    induction d with
    | zero =>
      intro k hk
      refine j_iload_n 4 cx 0 dX6_behindhand_4 rfl ?_
      refine j_aload_n 5 cx 2 dX6_behindhand_5 rfl ?_
      refine j_get 6 cx 0 0 (T := TX6) (v := .ref ((am 0))) (fun _ h => List.mem_cons_of_mem _ (List.mem_append_right _ (h))) (List.mem_of_getElem? (i := 1) rfl) (ci := 5) rfl (by decide) rfl rfl rfl dX6_behindhand_6 ?_
      refine j_iconst 9 cx 3 dX6_behindhand_9 (by decide) ?_
      refine j_iald 10 cx 1 3 rfl rfl (by omega) (by decide) dX6_behindhand_10 ?_
      refine j_top (σ 0 3) rfl ?_
      refine j_top (nI (szN σ)) hI.sz ?_
      refine j_icmp_ge_T 11 cx 53 dX6_behindhand_11 (by decide) (nI_le (by omega) (by omega)) ?_
      refine j_iload_n 53 cx 1 dX6_behindhand_53 rfl ?_
      exact fin () _ _ _ _ dX6_behindhand_54 rfl (by rw [show k = szN σ from by omega]) rfl trivial
    | succ d ih4 =>
      intro k hk
      refine j_iload_n 4 cx 0 dX6_behindhand_4 rfl ?_
      refine j_aload_n 5 cx 2 dX6_behindhand_5 rfl ?_
      refine j_get 6 cx 0 0 (T := TX6) (v := .ref ((am 0))) (fun _ h => List.mem_cons_of_mem _ (List.mem_append_right _ (h))) (List.mem_of_getElem? (i := 1) rfl) (ci := 5) rfl (by decide) rfl rfl rfl dX6_behindhand_6 ?_
      refine j_iconst 9 cx 3 dX6_behindhand_9 (by decide) ?_
      refine j_iald 10 cx 1 3 rfl rfl (by omega) (by decide) dX6_behindhand_10 ?_
      refine j_top (σ 0 3) rfl ?_
      refine j_top (nI (szN σ)) hI.sz ?_
      refine j_icmp_ge_F 11 cx 53 dX6_behindhand_11 (by decide) (nI_ge (by omega) (by omega)) ?_
      refine j_iload_n 14 cx 1 dX6_behindhand_14 rfl ?_
      refine j_aload_n 15 cx 2 dX6_behindhand_15 rfl ?_
      refine j_iload_n 16 cx 0 dX6_behindhand_16 rfl ?_
      refine j_callV_i 17 cx 1 [0, 1] [.int (nI k)] (fun _ => wMO o am ik la tn tk be an va bd ++ [((am 0), .inl (gI G, 51, .inl (mm σ)))]) (c_X6_isDone (kl K) G o am ik la tn tk be an va bd σ k (by omega) ) gX6_behindhand_X6_isDone rfl rfl rfl ⟨rfl, by decide, by decide, rfl⟩ ⟨Nat.le_of_ble_eq_true rfl, Nat.le_of_ble_eq_true rfl⟩ ⟨Nat.zero_le _, Nat.zero_le _⟩ rfl (by decide) (ci := 5) 0 rfl rfl rfl rfl rfl (Nat.le_of_ble_eq_true rfl) dX6_behindhand_17 (fun _ => rfl) (fun zu1 zk1 => ?_)
      refine j_top (bI (done σ k)) rfl ?_
      refine j_ifB_ne 20 cx 44 dX6_behindhand_20 (by decide) (fun zc1 => ?_) (fun zc1 => ?_)
      · skip
        refine j_iconst 44 cx 0 dX6_behindhand_44 (by decide) ?_
        refine j_ior 45 cx dX6_behindhand_45 ?_
        refine j_top (setF σ (behF σ) k) (i_or0 (setF σ (behF σ) k)) ?_
        refine j_istore_n 46 cx [(1, .int (setF σ (behF σ) k)), (2, .int (nI k)), (0, .ref o)] dX6_behindhand_46 (by decide) rfl ?_
        refine j_iinc 47 cx [(2, .int (nI (k + 1))), (1, .int (setF σ (behF σ) k)), (0, .ref o)] 1 (nI (k + 1)) dX6_behindhand_47 rfl (iinc1 k) (by decide) rfl ?_
        refine j_goto 50 cx 4 dX6_behindhand_50 (by decide) ?_
        have h9 := ih4 (k + 1) (by omega)
        rw [show setF σ (behF σ) (k + 1) = setF σ (behF σ) k from by simp [setF, behF, zc1]] at h9
        exact h9
      · skip
        refine j_aload_n 23 cx 2 dX6_behindhand_23 rfl ?_
        refine j_get 24 cx 0 0 (T := TX6) (v := .ref ((am 0))) (fun _ h => List.mem_cons_of_mem _ (List.mem_append_right _ (h))) (List.mem_of_getElem? (i := 1) rfl) (ci := 5) rfl (by decide) rfl rfl rfl dX6_behindhand_24 ?_
        refine j_iconst 27 cx 0 dX6_behindhand_27 (by decide) ?_
        refine j_iald 28 cx 1 0 rfl rfl (by omega) (by decide) dX6_behindhand_28 ?_
        refine j_top (σ 0 0) rfl ?_
        refine j_aload_n 29 cx 2 dX6_behindhand_29 rfl ?_
        refine j_iload_n 30 cx 0 dX6_behindhand_30 rfl ?_
        refine j_iconst 31 cx 3 dX6_behindhand_31 (by decide) ?_
        refine j_callV_i 32 cx 2 [0, 1] [.int (nI k), .int 3] (fun _ => wMO o am ik la tn tk be an va bd ++ [((am 0), .inl (gI G, 51, .inl (mm σ)))]) (c_X6_it (kl K) G o am ik la tn tk be an va bd σ k 3 (by omega) (by omega) ) gX6_behindhand_X6_it rfl rfl rfl ⟨rfl, by decide, by decide, rfl⟩ ⟨Nat.le_of_ble_eq_true rfl, Nat.le_of_ble_eq_true rfl⟩ ⟨Nat.zero_le _, Nat.zero_le _⟩ rfl (by decide) (ci := 5) 0 rfl rfl rfl rfl rfl (Nat.le_of_ble_eq_true rfl) dX6_behindhand_32 (fun _ => rfl) (fun zu2 zk2 => ?_)
        refine j_top (σ 5 k) rfl ?_
        refine j_icmp_le 35 cx 44 dX6_behindhand_35 (by decide) (fun zc2 => ?_) (fun zc2 => ?_)
        · skip
          refine j_iconst 44 cx 0 dX6_behindhand_44 (by decide) ?_
          refine j_ior 45 cx dX6_behindhand_45 ?_
          refine j_top (setF σ (behF σ) k) (i_or0 (setF σ (behF σ) k)) ?_
          refine j_istore_n 46 cx [(1, .int (setF σ (behF σ) k)), (2, .int (nI k)), (0, .ref o)] dX6_behindhand_46 (by decide) rfl ?_
          refine j_iinc 47 cx [(2, .int (nI (k + 1))), (1, .int (setF σ (behF σ) k)), (0, .ref o)] 1 (nI (k + 1)) dX6_behindhand_47 rfl (iinc1 k) (by decide) rfl ?_
          refine j_goto 50 cx 4 dX6_behindhand_50 (by decide) ?_
          have h9 := ih4 (k + 1) (by omega)
          rw [show setF σ (behF σ) (k + 1) = setF σ (behF σ) k from by simp [setF, behF, zc1, Int32.not_lt.mpr zc2]] at h9
          exact h9
        · skip
          refine j_iconst 38 cx 1 dX6_behindhand_38 (by decide) ?_
          refine j_iload_n 39 cx 0 dX6_behindhand_39 rfl ?_
          refine j_ishl 40 cx dX6_behindhand_40 ?_
          refine j_goto 41 cx 45 dX6_behindhand_41 (by decide) ?_
          refine j_ior 45 cx dX6_behindhand_45 ?_
          refine j_istore_n 46 cx [(1, .int ((setF σ (behF σ) k) ||| (1 <<< ((nI k) &&& 31)))), (2, .int (nI k)), (0, .ref o)] dX6_behindhand_46 (by decide) rfl ?_
          refine j_iinc 47 cx [(2, .int (nI (k + 1))), (1, .int ((setF σ (behF σ) k) ||| (1 <<< ((nI k) &&& 31)))), (0, .ref o)] 1 (nI (k + 1)) dX6_behindhand_47 rfl (iinc1 k) (by decide) rfl ?_
          refine j_goto 50 cx 4 dX6_behindhand_50 (by decide) ?_
          have h9 := ih4 (k + 1) (by omega)
          rw [show setF σ (behF σ) (k + 1) = setF σ (behF σ) k ||| ((1 : Int32) <<< (nI k &&& 31)) from by simp [setF, behF, zc1, Int32.not_le.mp zc2]] at h9
          exact h9
  exact L4 (szN σ) 0 (by omega)
set_option maxRecDepth 100000 in
set_option maxHeartbeats 4000000 in
theorem c_X6_finds (l : Launch) (G : pG) (o : Nat) (am : Nat → Nat) (ik : Bool) (la tn tk be an va : Int32) (bd : Bool) (fo : Nat → Int32) (j : Nat) (hj : j < 7) : KI l G yX6_finds wsX6_finds ({ frames := 0, cells := 0, slots := 0, locals := 0 } : Room) [.ref o, .int (fcode j)] (wMO o am ik la tn tk be an va bd ++ [((am 3), .inl (gI G, 7, .inl fo))]) (S := Unit) (fun _ => True) (fun u => fcode j) (fun u => wMO o am ik la tn tk be an va bd ++ [((am 3), .inl (gI G, 7, .inl (upd fo j (fo j + 1))))]) := by
  refine ki_of [(0, .ref o), (1, .int (fcode j))] (own := RX6) (cc := cX6_finds) (nL := 2) (by decide +kernel) rfl rfl (Nat.le_of_ble_eq_true rfl) rfl (fun _ => rfl) (fun K cx fin => ?_)
  refine j_aload_n 0 cx 0 dX6_finds_0 rfl ?_
  refine j_get 1 cx 0 4 (T := TX6) (v := .ref ((am 3))) (fun _ h => List.mem_cons_of_mem _ (List.mem_append_right _ (h))) (List.mem_of_getElem? (i := 1) rfl) (ci := 5) rfl (by decide) rfl rfl rfl dX6_finds_1 ?_
  refine j_ldc 4 cx (v := -1000000001) (List.mem_of_getElem? (i := 2) rfl) dX6_finds_4 ?_
  refine j_iload_n 6 cx 1 dX6_finds_6 rfl ?_
  refine j_isub 7 cx dX6_finds_7 ?_
  refine j_top (nI j) (fc_sub j hj) ?_
  refine j_dup2 8 cx dX6_finds_8 rfl rfl ?_
  refine j_iald 9 cx 1 j rfl rfl (by omega) (by decide) dX6_finds_9 ?_
  refine j_iconst 10 cx 1 dX6_finds_10 (by decide) ?_
  refine j_iadd 11 cx dX6_finds_11 ?_
  refine j_iast 12 cx 1 j (wMO o am ik la tn tk be an va bd ++ [((am 3), .inl (gI G, 7, .inl (upd fo j ((fo j) + 1))))]) rfl rfl (by omega) (by decide) rfl dX6_finds_12 ?_
  refine j_iload_n 13 cx 1 dX6_finds_13 rfl ?_
  exact fin () _ _ _ _ dX6_finds_14 rfl rfl rfl trivial
set_option maxRecDepth 100000 in
set_option maxHeartbeats 4000000 in
theorem c_X6_copyAll (l : Launch) (G : pG) (a1 a2 : Nat) (f g : Nat → Int32) : KV l G yX6_copyAll wsX6_copyAll ({ frames := 0, cells := 0, slots := 0, locals := 0 } : Room) [.ref a1, .ref a2] ([(a1, .inl (gI G, 51, .inl f))] ++ [(a2, .inl (gI G, 51, .inl g))]) (S := Unit) (fun _ => True) (fun u => [(a1, .inl (gI G, 51, .inl f))] ++ [(a2, .inl (gI G, 51, .inl f))]) := by
  refine kv_of [(0, .ref a1), (1, .ref a2)] (own := RX6) (cc := cX6_copyAll) (nL := 3) (by decide +kernel) rfl rfl (Nat.le_of_ble_eq_true rfl) rfl (fun _ => rfl) (fun K cx fin => ?_)
  refine j_iconst 0 cx 0 dX6_copyAll_0 (by decide) ?_
  refine j_istore_n 1 cx [(2, .int 0), (0, .ref a1), (1, .ref a2)] dX6_copyAll_1 (by decide) rfl ?_
  have L2 : ∀ d : Nat, ∀ (k : Nat), (k + d = 51) → JJ G K 0 0 ([(a1, .inl (gI G, 51, .inl f))] ++ [(a2, .inl (gI G, 51, .inl (cpF f g k)))]) [(2, .int (nI k)), (1, .ref a2), (0, .ref a1)] 2 [] := by
    intro d
    induction d with
    | zero =>
      intro k hk
      refine j_iload_n 2 cx 0 dX6_copyAll_2 rfl ?_
      refine j_bipush 3 cx 51 dX6_copyAll_3 (by decide) ?_
      refine j_icmp_ge_T 5 cx 20 dX6_copyAll_5 (by decide) (nI_le (a := 51) (by omega) (by omega)) ?_
      refine j_arrI 1 f ([(a1, .inl (gI G, 51, .inl f))] ++ [(a2, .inl (gI G, 51, .inl f))]) rfl (fun j hj => cpF_in (by omega)) rfl ?_
      exact fin () _ _ _ dX6_copyAll_20 rfl trivial
    | succ d ih2 =>
      intro k hk
      refine j_iload_n 2 cx 0 dX6_copyAll_2 rfl ?_
      refine j_bipush 3 cx 51 dX6_copyAll_3 (by decide) ?_
      refine j_icmp_ge_F 5 cx 20 dX6_copyAll_5 (by decide) (nI_ge (b := 51) (by omega) (by omega)) ?_
      refine j_aload_n 8 cx 1 dX6_copyAll_8 rfl ?_
      refine j_iload_n 9 cx 0 dX6_copyAll_9 rfl ?_
      refine j_aload_n 10 cx 2 dX6_copyAll_10 rfl ?_
      refine j_iload_n 11 cx 0 dX6_copyAll_11 rfl ?_
      refine j_iald 12 cx 0 k rfl rfl (by omega) (by decide) dX6_copyAll_12 ?_
      refine j_iast 13 cx 1 k ([(a1, .inl (gI G, 51, .inl f))] ++ [(a2, .inl (gI G, 51, .inl (upd (cpF f g k) k (f k))))]) rfl rfl (by omega) (by decide) rfl dX6_copyAll_13 ?_
      refine j_iinc 14 cx [(2, .int (nI (k + 1))), (1, .ref a2), (0, .ref a1)] 0 (nI (k + 1)) dX6_copyAll_14 rfl (iinc1 k) (by decide) rfl ?_
      refine j_goto 17 cx 2 dX6_copyAll_17 (by decide) ?_
      have h9 := ih2 (k + 1) (by omega)
      rw [← cpF_s] at h9
      exact h9
  refine j_lv [0, 2, 1] rfl ?_
  exact L2 51 0 (by omega)
set_option maxRecDepth 100000 in
set_option maxHeartbeats 4000000 in
theorem c_X6_thinks (l : Launch) (G : pG) (o : Nat) (am : Nat → Nat) (ik : Bool) (la tn tk be an va : Int32) (bd : Bool) (σ ω : Nu) : KV l G yX6_thinks wsX6_thinks ({ frames := 1, cells := 0, slots := 0, locals := 22 } : Room) [.ref o] (wMO o am ik la tn tk be an va bd ++ ([((am 0), .inl (gI G, 51, .inl (mm σ)))] ++ [((am 2), .inl (gI G, 51, .inl (mm ω)))])) (S := Unit) (fun _ => True) (fun u => wMO o am ik la tn tk be an va bd ++ ([((am 0), .inl (gI G, 51, .inl (mm σ)))] ++ [((am 2), .inl (gI G, 51, .inl (mm σ)))])) := by
  refine kv_of [(0, .ref o)] (own := RX6) (cc := cX6_thinks) (nL := 1) (by decide +kernel) rfl rfl (Nat.le_of_ble_eq_true rfl) rfl (fun _ => rfl) (fun K cx fin => ?_)
  refine j_aload_n 0 cx 0 dX6_thinks_0 rfl ?_
  refine j_get 1 cx 0 0 (T := TX6) (v := .ref ((am 0))) (fun _ h => List.mem_cons_of_mem _ (List.mem_append_right _ (h))) (List.mem_of_getElem? (i := 1) rfl) (ci := 5) rfl (by decide) rfl rfl rfl dX6_thinks_1 ?_
  refine j_aload_n 4 cx 0 dX6_thinks_4 rfl ?_
  refine j_get 5 cx 0 2 (T := TX6) (v := .ref ((am 2))) (fun _ h => List.mem_cons_of_mem _ (List.mem_append_right _ (h))) (List.mem_of_getElem? (i := 2) rfl) (ci := 5) rfl (by decide) rfl rfl rfl dX6_thinks_5 ?_
  refine j_callS_v 8 cx 2 [1, 2] [.ref ((am 0)), .ref ((am 2))] (fun _ => wMO o am ik la tn tk be an va bd ++ ([((am 0), .inl (gI G, 51, .inl (mm σ)))] ++ [((am 2), .inl (gI G, 51, .inl (mm σ)))])) (c_X6_copyAll (kl K) G (am 0) (am 2) (mm σ) (mm ω)) gX6_thinks_X6_copyAll rfl rfl rfl ⟨by decide, by decide, rfl⟩ ⟨Nat.le_of_ble_eq_true rfl, Nat.le_of_ble_eq_true rfl⟩ ⟨Nat.zero_le _, Nat.zero_le _⟩ rfl (by decide) rfl rfl (Nat.le_of_ble_eq_true rfl) dX6_thinks_8 (fun _ => rfl) (fun zu1 zk1 => ?_)
  exact fin () _ _ _ dX6_thinks_11 rfl trivial
set_option maxRecDepth 100000 in
set_option maxHeartbeats 4000000 in
theorem c_X6_putsBack (l : Launch) (G : pG) (o : Nat) (am : Nat → Nat) (ik : Bool) (la tn tk be an va : Int32) (bd : Bool) (σ ω : Nu) : KV l G yX6_putsBack wsX6_putsBack ({ frames := 1, cells := 0, slots := 0, locals := 22 } : Room) [.ref o] (wMO o am ik la tn tk be an va bd ++ ([((am 0), .inl (gI G, 51, .inl (mm σ)))] ++ [((am 2), .inl (gI G, 51, .inl (mm ω)))])) (S := Unit) (fun _ => True) (fun u => wMO o am ik la tn tk be an va bd ++ ([((am 0), .inl (gI G, 51, .inl (mm ω)))] ++ [((am 2), .inl (gI G, 51, .inl (mm ω)))])) := by
  refine kv_of [(0, .ref o)] (own := RX6) (cc := cX6_putsBack) (nL := 1) (by decide +kernel) rfl rfl (Nat.le_of_ble_eq_true rfl) rfl (fun _ => rfl) (fun K cx fin => ?_)
  refine j_aload_n 0 cx 0 dX6_putsBack_0 rfl ?_
  refine j_get 1 cx 0 2 (T := TX6) (v := .ref ((am 2))) (fun _ h => List.mem_cons_of_mem _ (List.mem_append_right _ (h))) (List.mem_of_getElem? (i := 1) rfl) (ci := 5) rfl (by decide) rfl rfl rfl dX6_putsBack_1 ?_
  refine j_aload_n 4 cx 0 dX6_putsBack_4 rfl ?_
  refine j_get 5 cx 0 0 (T := TX6) (v := .ref ((am 0))) (fun _ h => List.mem_cons_of_mem _ (List.mem_append_right _ (h))) (List.mem_of_getElem? (i := 2) rfl) (ci := 5) rfl (by decide) rfl rfl rfl dX6_putsBack_5 ?_
  refine j_callS_v 8 cx 2 [2, 1] [.ref ((am 2)), .ref ((am 0))] (fun _ => wMO o am ik la tn tk be an va bd ++ ([((am 0), .inl (gI G, 51, .inl (mm ω)))] ++ [((am 2), .inl (gI G, 51, .inl (mm ω)))])) (c_X6_copyAll (kl K) G (am 2) (am 0) (mm ω) (mm σ)) gX6_putsBack_X6_copyAll rfl rfl rfl ⟨by decide, by decide, rfl⟩ ⟨Nat.le_of_ble_eq_true rfl, Nat.le_of_ble_eq_true rfl⟩ ⟨Nat.zero_le _, Nat.zero_le _⟩ rfl (by decide) rfl rfl (Nat.le_of_ble_eq_true rfl) dX6_putsBack_8 (fun _ => rfl) (fun zu1 zk1 => ?_)
  exact fin () _ _ _ dX6_putsBack_11 rfl trivial
