set_option maxRecDepth 100000 in
set_option maxHeartbeats 4000000 in
theorem c_X3_isMissing (l : Launch) (G : pG) (a n : Nat) (b z : Int32) : KI l G yX3_isMissing wsX3_isMissing ({ frames := 0, cells := 0, slots := 0, locals := 0 } : Room) [.ref a] (wSH a n b z) (S := Unit) (fun _ => True) (fun u => bI (decide (b = 0))) (fun u => wSH a n b z) := by
  refine ki_of [(0, .ref a)] (own := RX3) (cc := cX3_isMissing) (nL := 1) (by decide +kernel) rfl rfl (Nat.le_of_ble_eq_true rfl) rfl (fun _ => rfl) (fun K cx fin => ?_)
  refine j_aload_n 0 cx 0 dX3_isMissing_0 rfl ?_
  refine j_get 1 cx 0 1 (T := TX3) (v := .int b) (fun _ h => List.mem_cons_of_mem _ (List.mem_append_right _ (h))) (List.mem_of_getElem? (i := 1) rfl) (ci := 2) rfl (by decide) rfl rfl rfl dX3_isMissing_1 ?_
  refine j_if_ne 4 cx 11 dX3_isMissing_4 (by decide) (fun zc1 => ?_) (fun zc1 => ?_)
  · skip
    refine j_iconst 11 cx 0 dX3_isMissing_11 (by decide) ?_
    exact fin () _ _ _ _ dX3_isMissing_12 rfl (by simp [bI, zc1]) rfl trivial
  · skip
    refine j_iconst 7 cx 1 dX3_isMissing_7 (by decide) ?_
    refine j_goto 8 cx 12 dX3_isMissing_8 (by decide) ?_
    exact fin () _ _ _ _ dX3_isMissing_12 rfl (by simp [bI, zc1]) rfl trivial
set_option maxRecDepth 100000 in
set_option maxHeartbeats 4000000 in
theorem c_X3_narrowed (l : Launch) (G : pG) (a n : Nat) (b z : Int32) (v : Int64) : KL l G yX3_narrowed wsX3_narrowed ({ frames := 0, cells := 0, slots := 0, locals := 0 } : Room) [.ref a, .long (v)] (wSH a n b z) (S := Unit) (fun _ => True) (fun u => cutF b v) (fun u => wSH a n b z) := by
  refine kl_of [(0, .ref a), (1, .long (v))] (own := RX3) (cc := cX3_narrowed) (nL := 3) (by decide +kernel) rfl rfl (Nat.le_of_ble_eq_true rfl) rfl (fun _ => rfl) (fun K cx fin => ?_)
  refine j_aload_n 0 cx 0 dX3_narrowed_0 rfl ?_
  refine j_get 1 cx 0 1 (T := TX3) (v := .int b) (fun _ h => List.mem_cons_of_mem _ (List.mem_append_right _ (h))) (List.mem_of_getElem? (i := 1) rfl) (ci := 2) rfl (by decide) rfl rfl rfl dX3_narrowed_1 ?_
  by_cases zc1 : b = 8
  · skip
    refine j_lookup 4 cx 32 dX3_narrowed_4 (by decide) (by rw [zc1] <;> rfl) (by decide) ?_
    refine j_lload_n 32 cx 1 dX3_narrowed_32 rfl ?_
    refine j_l2i 33 cx dX3_narrowed_33 ?_
    refine j_i2b 34 cx dX3_narrowed_34 ?_
    refine j_i2l 35 cx dX3_narrowed_35 ?_
    exact fin () _ _ _ _ dX3_narrowed_36 (by simp [cutF, zc1]) rfl trivial
  · skip
    by_cases zc2 : b = 16
    · skip
      refine j_lookup 4 cx 37 dX3_narrowed_4 (by decide) (by rw [zc2] <;> rfl) (by decide) ?_
      refine j_lload_n 37 cx 1 dX3_narrowed_37 rfl ?_
      refine j_l2i 38 cx dX3_narrowed_38 ?_
      refine j_i2s 39 cx dX3_narrowed_39 ?_
      refine j_i2l 40 cx dX3_narrowed_40 ?_
      exact fin () _ _ _ _ dX3_narrowed_41 (by simp [cutF, zc1, zc2]) rfl trivial
    · skip
      refine j_lookup 4 cx 42 (off := 38) dX3_narrowed_4 (by decide) ((lv_osw zc1 rfl).trans ((lv_osw zc2 rfl).trans rfl)) (by decide) ?_
      refine j_lload_n 42 cx 1 dX3_narrowed_42 rfl ?_
      exact fin () _ _ _ _ dX3_narrowed_43 (by simp [cutF, zc1, zc2]) rfl trivial
set_option maxRecDepth 100000 in
set_option maxHeartbeats 4000000 in
theorem c_X3_put (l : Launch) (G : pG) (a n : Nat) (b : Int32) (z k : Nat) (f : Nat → Int64) (v : Int64) (hk : k < z) (hz : z ≤ 40) : KV l G yX3_put wsX3_put ({ frames := 1, cells := 0, slots := 0, locals := 22 } : Room) [.ref a, .int (nI k), .long (v)] (wSH a n b (nI z) ++ [(n, .inl (gJ G, 40, .inr (.inl f)))]) (S := Unit) (fun _ => True) (fun u => wSH a n b (nI z) ++ [(n, .inl (gJ G, 40, .inr (.inl (vp_updL f k (cutF b v)))))]) := by
  refine kv_of [(0, .ref a), (1, .int (nI k)), (2, .long (v))] (own := RX3) (cc := cX3_put) (nL := 4) (by decide +kernel) rfl rfl (Nat.le_of_ble_eq_true rfl) rfl (fun _ => rfl) (fun K cx fin => ?_)
  refine j_iload_n 0 cx 1 dX3_put_0 rfl ?_
  refine j_if_lt_F 1 cx 23 dX3_put_1 (by decide) (nI_pos (by omega)) ?_
  refine j_iload_n 4 cx 1 dX3_put_4 rfl ?_
  refine j_aload_n 5 cx 0 dX3_put_5 rfl ?_
  refine j_get 6 cx 0 2 (T := TX3) (v := .int (nI z)) (fun _ h => List.mem_cons_of_mem _ (List.mem_append_right _ (h))) (List.mem_of_getElem? (i := 1) rfl) (ci := 2) rfl (by decide) rfl rfl rfl dX3_put_6 ?_
  refine j_icmp_ge_F 9 cx 23 dX3_put_9 (by decide) (nI_ge (by omega) (by omega)) ?_
  refine j_aload_n 12 cx 0 dX3_put_12 rfl ?_
  refine j_get 13 cx 0 0 (T := TX3) (v := .ref n) (fun _ h => List.mem_cons_of_mem _ (List.mem_append_right _ (h))) (List.mem_of_getElem? (i := 2) rfl) (ci := 2) rfl (by decide) rfl rfl rfl dX3_put_13 ?_
  refine j_iload_n 16 cx 1 dX3_put_16 rfl ?_
  refine j_aload_n 17 cx 0 dX3_put_17 rfl ?_
  refine j_lload_n 18 cx 2 dX3_put_18 rfl ?_
  refine j_callV_l 19 cx 1 [0] [.long (v)] (fun _ => wSH a n b (nI z) ++ [(n, .inl (gJ G, 40, .inr (.inl f)))]) (c_X3_narrowed (kl K) G a n b (nI z) v) gX3_put_X3_narrowed rfl rfl rfl ⟨rfl, by decide, by decide, rfl⟩ ⟨Nat.le_of_ble_eq_true rfl, Nat.le_of_ble_eq_true rfl⟩ ⟨Nat.zero_le _, Nat.zero_le _⟩ rfl (by decide) (ci := 2) 0 rfl rfl rfl rfl rfl (Nat.le_of_ble_eq_true rfl) dX3_put_19 (fun _ => rfl) (fun zu1 zk1 => ?_)
  refine j_topl (cutF b v) rfl ?_
  refine j_last 22 cx 1 k (wSH a n b (nI z) ++ [(n, .inl (gJ G, 40, .inr (.inl (vp_updL f k (cutF b v)))))]) rfl rfl (by omega) (by decide) rfl dX3_put_22 ?_
  exact fin () _ _ _ dX3_put_23 rfl trivial
set_option maxRecDepth 100000 in
set_option maxHeartbeats 4000000 in
theorem c_X3_hasSpan (l : Launch) (G : pG) (a n : Nat) (b z : Int32) (x y : Int32) : KI l G yX3_hasSpan wsX3_hasSpan ({ frames := 0, cells := 0, slots := 0, locals := 0 } : Room) [.ref a, .int x, .int y] (wSH a n b z) (S := Unit) (fun _ => True) (fun u => bI (spanB z x y)) (fun u => wSH a n b z) := by
  refine ki_of [(0, .ref a), (1, .int x), (2, .int y)] (own := RX3) (cc := cX3_hasSpan) (nL := 3) (by decide +kernel) rfl rfl (Nat.le_of_ble_eq_true rfl) rfl (fun _ => rfl) (fun K cx fin => ?_)
  refine j_iload_n 0 cx 1 dX3_hasSpan_0 rfl ?_
  refine j_if_lt 1 cx 30 dX3_hasSpan_1 (by decide) (fun zc1 => ?_) (fun zc1 => ?_)
  · skip
    refine j_iconst 30 cx 0 dX3_hasSpan_30 (by decide) ?_
    exact fin () _ _ _ _ dX3_hasSpan_31 rfl (by simp [bI, spanB, Int32.not_le.mpr zc1]) rfl trivial
  · skip
    refine j_iload_n 4 cx 2 dX3_hasSpan_4 rfl ?_
    refine j_if_lt 5 cx 30 dX3_hasSpan_5 (by decide) (fun zc2 => ?_) (fun zc2 => ?_)
    · skip
      refine j_iconst 30 cx 0 dX3_hasSpan_30 (by decide) ?_
      exact fin () _ _ _ _ dX3_hasSpan_31 rfl (by simp [bI, spanB, Int32.not_lt.mp zc1, Int32.not_le.mpr zc2]) rfl trivial
    · skip
      refine j_iload_n 8 cx 2 dX3_hasSpan_8 rfl ?_
      refine j_aload_n 9 cx 0 dX3_hasSpan_9 rfl ?_
      refine j_get 10 cx 0 2 (T := TX3) (v := .int z) (fun _ h => List.mem_cons_of_mem _ (List.mem_append_right _ (h))) (List.mem_of_getElem? (i := 1) rfl) (ci := 2) rfl (by decide) rfl rfl rfl dX3_hasSpan_10 ?_
      refine j_icmp_gt 13 cx 30 dX3_hasSpan_13 (by decide) (fun zc3 => ?_) (fun zc3 => ?_)
      · skip
        refine j_iconst 30 cx 0 dX3_hasSpan_30 (by decide) ?_
        exact fin () _ _ _ _ dX3_hasSpan_31 rfl (by simp [bI, spanB, Int32.not_lt.mp zc1, Int32.not_lt.mp zc2, Int32.not_le.mpr zc3]) rfl trivial
      · skip
        refine j_iload_n 16 cx 1 dX3_hasSpan_16 rfl ?_
        refine j_aload_n 17 cx 0 dX3_hasSpan_17 rfl ?_
        refine j_get 18 cx 0 2 (T := TX3) (v := .int z) (fun _ h => List.mem_cons_of_mem _ (List.mem_append_right _ (h))) (List.mem_of_getElem? (i := 1) rfl) (ci := 2) rfl (by decide) rfl rfl rfl dX3_hasSpan_18 ?_
        refine j_iload_n 21 cx 2 dX3_hasSpan_21 rfl ?_
        refine j_isub 22 cx dX3_hasSpan_22 ?_
        refine j_icmp_gt 23 cx 30 dX3_hasSpan_23 (by decide) (fun zc4 => ?_) (fun zc4 => ?_)
        · skip
          refine j_iconst 30 cx 0 dX3_hasSpan_30 (by decide) ?_
          exact fin () _ _ _ _ dX3_hasSpan_31 rfl (by simp [bI, spanB, Int32.not_lt.mp zc1, Int32.not_lt.mp zc2, Int32.not_lt.mp zc3, Int32.not_le.mpr zc4]) rfl trivial
        · skip
          refine j_iconst 26 cx 1 dX3_hasSpan_26 (by decide) ?_
          refine j_goto 27 cx 31 dX3_hasSpan_27 (by decide) ?_
          exact fin () _ _ _ _ dX3_hasSpan_31 rfl (by simp [bI, spanB, Int32.not_lt.mp zc1, Int32.not_lt.mp zc2, Int32.not_lt.mp zc3, Int32.not_lt.mp zc4]) rfl trivial
set_option maxRecDepth 100000 in
set_option maxHeartbeats 4000000 in
theorem c_X3_begin (l : Launch) (G : pG) (a n : Nat) (b z : Int32) (f : Nat → Int64) (nb m : Int32) : KV l G yX3_begin wsX3_begin ({ frames := 1, cells := 0, slots := 0, locals := 21 } : Room) [.ref a, .int nb, .int m] (wSH a n b z ++ [(n, .inl (gJ G, 40, .inr (.inl f)))]) (S := Unit) (fun _ => True) (fun u => wSH a n nb (mx0 (mnI 40 m)) ++ [(n, .inl (gJ G, 40, .inr (.inl (fun _ => 0))))]) := by
  refine kv_of [(0, .ref a), (1, .int nb), (2, .int m)] (own := RX3) (cc := cX3_begin) (nL := 4) (by decide +kernel) rfl rfl (Nat.le_of_ble_eq_true rfl) rfl (fun _ => rfl) (fun K cx fin => ?_)
  refine j_aload_n 0 cx 0 dX3_begin_0 rfl ?_
  refine j_iload_n 1 cx 1 dX3_begin_1 rfl ?_
  refine j_put 2 cx 0 1 (wSH a n nb z ++ [(n, .inl (gJ G, 40, .inr (.inl f)))]) (T := TX3) (ty0 := tyX3) (fun _ h => List.mem_cons_of_mem _ (List.mem_append_right _ (h))) (List.mem_of_getElem? (i := 1) rfl) (ci := 2) rfl (by decide) rfl tyX3_ok nmX3 rfl rfl rfl rfl (Nat.le_of_ble_eq_true rfl) rfl dX3_begin_2 ?_
  refine j_aload_n 5 cx 0 dX3_begin_5 rfl ?_
  refine j_iconst 6 cx 0 dX3_begin_6 (by decide) ?_
  refine j_bipush 7 cx 40 dX3_begin_7 (by decide) ?_
  refine j_iload_n 9 cx 2 dX3_begin_9 rfl ?_
  refine j_min 10 cx (List.mem_of_getElem? (i := 2) rfl) (List.mem_of_getElem? (i := 3) rfl) (List.mem_of_getElem? (i := 4) rfl) (List.mem_of_getElem? (i := 5) rfl) (by decide) (Nat.le_of_ble_eq_true rfl) (Nat.zero_le _) (Nat.zero_le _) dX3_begin_10 ?_
  refine j_top (mnI 40 m) rfl ?_
  refine j_max 13 cx (List.mem_of_getElem? (i := 6) rfl) (List.mem_of_getElem? (i := 7) rfl) (List.mem_of_getElem? (i := 4) rfl) (List.mem_of_getElem? (i := 8) rfl) (by decide) (Nat.le_of_ble_eq_true rfl) (Nat.zero_le _) (Nat.zero_le _) dX3_begin_13 ?_
  refine j_top (mx0 (mnI 40 m)) rfl ?_
  refine j_put 16 cx 0 2 (wSH a n nb (mx0 (mnI 40 m)) ++ [(n, .inl (gJ G, 40, .inr (.inl f)))]) (T := TX3) (ty0 := tyX3) (fun _ h => List.mem_cons_of_mem _ (List.mem_append_right _ (h))) (List.mem_of_getElem? (i := 9) rfl) (ci := 2) rfl (by decide) rfl tyX3_ok nmX3 rfl rfl rfl rfl (Nat.le_of_ble_eq_true rfl) rfl dX3_begin_16 ?_
  refine j_iconst 19 cx 0 dX3_begin_19 (by decide) ?_
  refine j_istore_n 20 cx [(3, .int 0), (0, .ref a), (1, .int nb), (2, .int m)] dX3_begin_20 (by decide) rfl ?_
  have L21 : ∀ d : Nat, ∀ (k : Nat), (k + d = 40) → JJ G K 0 0 (wSH a n nb (mx0 (mnI 40 m)) ++ [(n, .inl (gJ G, 40, .inr (.inl (zrF f k))))]) [(3, .int (nI k)), (0, .ref a)] 21 [] := by
    intro d
    induction d with
    | zero =>
      intro k hk
      refine j_iload_n 21 cx 0 dX3_begin_21 rfl ?_
      refine j_bipush 22 cx 40 dX3_begin_22 (by decide) ?_
      refine j_icmp_ge_T 24 cx 40 dX3_begin_24 (by decide) (nI_le (a := 40) (by omega) (by omega)) ?_
      refine j_arrJ 1 (fun _ => 0) ([(a, .inr (2, [.ref n, .int nb, .int (mx0 (mnI 40 m))]))] ++ [(n, .inl (gJ G, 40, .inr (.inl (fun _ => 0))))]) rfl (fun j hj => zrF_in (by omega)) rfl ?_
      exact fin () _ _ _ dX3_begin_40 rfl trivial
    | succ d ih21 =>
      intro k hk
      refine j_iload_n 21 cx 0 dX3_begin_21 rfl ?_
      refine j_bipush 22 cx 40 dX3_begin_22 (by decide) ?_
      refine j_icmp_ge_F 24 cx 40 dX3_begin_24 (by decide) (nI_ge (b := 40) (by omega) (by omega)) ?_
      refine j_aload_n 27 cx 1 dX3_begin_27 rfl ?_
      refine j_get 28 cx 0 0 (T := TX3) (v := .ref n) (fun _ h => List.mem_cons_of_mem _ (List.mem_append_right _ (h))) (List.mem_of_getElem? (i := 10) rfl) (ci := 2) rfl (by decide) rfl rfl rfl dX3_begin_28 ?_
      refine j_iload_n 31 cx 0 dX3_begin_31 rfl ?_
      refine j_lconst 32 cx 0 dX3_begin_32 (by decide) ?_
      refine j_last 33 cx 1 k (wSH a n nb (mx0 (mnI 40 m)) ++ [(n, .inl (gJ G, 40, .inr (.inl (vp_updL (zrF f k) k 0))))]) rfl rfl (by omega) (by decide) rfl dX3_begin_33 ?_
      refine j_iinc 34 cx [(3, .int (nI (k + 1))), (0, .ref a)] 0 (nI (k + 1)) dX3_begin_34 rfl (iinc1 k) (by decide) rfl ?_
      refine j_goto 37 cx 21 dX3_begin_37 (by decide) ?_
      have h9 := ih21 (k + 1) (by omega)
      rw [← zrF_s] at h9
      exact h9
  refine j_lv [0, 1] rfl ?_
  rw [← zrF_0 f]
  exact L21 40 0 (by omega)
