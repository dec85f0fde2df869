set_option maxRecDepth 100000 in
set_option maxHeartbeats 4000000 in
theorem c_X1_holidays (l : Launch) (G : pG) (o : Nat) (q : Nat → Nat) (σ : Nu) : KI l G yX1_holidays wsX1_holidays ({ frames := 0, cells := 0, slots := 0, locals := 0 } : Room) [.ref o] (wN G o q σ) (S := Unit) (fun _ => True) (fun u => sumF (σ 1) 7) (fun u => wN G o q σ) := by
  refine ki_of [(0, .ref o)] (own := RX1) (cc := cX1_holidays) (nL := 3) (by decide +kernel) rfl rfl (Nat.le_of_ble_eq_true rfl) rfl (fun _ => rfl) (fun K cx fin => ?_)
  refine j_iconst 0 cx 0 dX1_holidays_0 (by decide) ?_
  refine j_istore_n 1 cx [(1, .int 0), (0, .ref o)] dX1_holidays_1 (by decide) rfl ?_
  refine j_iconst 2 cx 0 dX1_holidays_2 (by decide) ?_
  refine j_istore_n 3 cx [(2, .int 0), (1, .int 0), (0, .ref o)] dX1_holidays_3 (by decide) rfl ?_
  have L4 : ∀ d : Nat, ∀ (k : Nat), (k + d = 7) → JJ G K 0 0 (wN G o q σ) [(2, .int (nI k)), (1, .int (sumF (σ 1) k)), (0, .ref o)] 4 [] := by
    intro d
    induction d with
    | zero =>
      intro k hk
      refine j_iload_n 4 cx 0 dX1_holidays_4 rfl ?_
      refine j_bipush 5 cx 7 dX1_holidays_5 (by decide) ?_
      refine j_icmp_ge_T 7 cx 25 dX1_holidays_7 (by decide) (nI_le (a := 7) (by omega) (by omega)) ?_
      refine j_iload_n 25 cx 1 dX1_holidays_25 rfl ?_
      exact fin () _ _ _ _ dX1_holidays_26 rfl (by rw [show k = 7 from by omega]) rfl trivial
    | succ d ih4 =>
      intro k hk
      refine j_iload_n 4 cx 0 dX1_holidays_4 rfl ?_
      refine j_bipush 5 cx 7 dX1_holidays_5 (by decide) ?_
      refine j_icmp_ge_F 7 cx 25 dX1_holidays_7 (by decide) (nI_ge (b := 7) (by omega) (by omega)) ?_
      refine j_iload_n 10 cx 1 dX1_holidays_10 rfl ?_
      refine j_aload_n 11 cx 2 dX1_holidays_11 rfl ?_
      refine j_get 12 cx 0 4 (T := TX1) (v := .ref (q 1)) (fun _ h => List.mem_cons_of_mem _ (List.mem_append_right _ (h))) (List.mem_of_getElem? (i := 1) rfl) (ci := 0) rfl (by decide) rfl rfl rfl dX1_holidays_12 ?_
      refine j_iload_n 15 cx 0 dX1_holidays_15 rfl ?_
      refine j_iald 16 cx 1 k rfl rfl (by omega) (by decide) dX1_holidays_16 ?_
      refine j_iadd 17 cx dX1_holidays_17 ?_
      refine j_istore_n 18 cx [(1, .int ((sumF (σ 1) k) + (σ 1 k))), (2, .int (nI k)), (0, .ref o)] dX1_holidays_18 (by decide) rfl ?_
      refine j_iinc 19 cx [(2, .int (nI (k + 1))), (1, .int ((sumF (σ 1) k) + (σ 1 k))), (0, .ref o)] 1 (nI (k + 1)) dX1_holidays_19 rfl (iinc1 k) (by decide) rfl ?_
      refine j_goto 22 cx 4 dX1_holidays_22 (by decide) ?_
      exact ih4 (k + 1) (by omega)
  exact L4 (7) 0 (by omega)
set_option maxRecDepth 100000 in
set_option maxHeartbeats 4000000 in
theorem c_X1_allPoints (l : Launch) (G : pG) (o : Nat) (q : Nat → Nat) (σ : Nu) (hI : Inv σ) : KI l G yX1_allPoints wsX1_allPoints ({ frames := 0, cells := 0, slots := 0, locals := 0 } : Room) [.ref o] (wN G o q σ) (S := Unit) (fun _ => True) (fun u => sumF (σ 4) (szN σ)) (fun u => wN G o q σ) := by
  have h8 := hI.sz8
  refine ki_of [(0, .ref o)] (own := RX1) (cc := cX1_allPoints) (nL := 3) (by decide +kernel) rfl rfl (Nat.le_of_ble_eq_true rfl) rfl (fun _ => rfl) (fun K cx fin => ?_)
  refine j_iconst 0 cx 0 dX1_allPoints_0 (by decide) ?_
  refine j_istore_n 1 cx [(1, .int 0), (0, .ref o)] dX1_allPoints_1 (by decide) rfl ?_
  refine j_iconst 2 cx 0 dX1_allPoints_2 (by decide) ?_
  refine j_istore_n 3 cx [(2, .int 0), (1, .int 0), (0, .ref o)] dX1_allPoints_3 (by decide) rfl ?_
  have L4 : ∀ d : Nat, ∀ (k : Nat), (k + d = szN σ) → JJ G K 0 0 (wN G o q σ) [(2, .int (nI k)), (1, .int (sumF (σ 4) k)), (0, .ref o)] 4 [] := by
    intro d
    induction d with
    | zero =>
      intro k hk
      refine j_iload_n 4 cx 0 dX1_allPoints_4 rfl ?_
      refine j_aload_n 5 cx 2 dX1_allPoints_5 rfl ?_
      refine j_get 6 cx 0 3 (T := TX1) (v := .int (σ 0 3)) (fun _ h => List.mem_cons_of_mem _ (List.mem_append_right _ (h))) (List.mem_of_getElem? (i := 1) rfl) (ci := 0) rfl (by decide) rfl rfl rfl dX1_allPoints_6 ?_
      refine j_top (nI (szN σ)) hI.sz ?_
      refine j_icmp_ge_T 9 cx 27 dX1_allPoints_9 (by decide) (nI_le  (by omega) (by omega)) ?_
      refine j_iload_n 27 cx 1 dX1_allPoints_27 rfl ?_
      exact fin () _ _ _ _ dX1_allPoints_28 rfl (by rw [show k = szN σ from by omega]) rfl trivial
    | succ d ih4 =>
      intro k hk
      refine j_iload_n 4 cx 0 dX1_allPoints_4 rfl ?_
      refine j_aload_n 5 cx 2 dX1_allPoints_5 rfl ?_
      refine j_get 6 cx 0 3 (T := TX1) (v := .int (σ 0 3)) (fun _ h => List.mem_cons_of_mem _ (List.mem_append_right _ (h))) (List.mem_of_getElem? (i := 1) rfl) (ci := 0) rfl (by decide) rfl rfl rfl dX1_allPoints_6 ?_
      refine j_top (nI (szN σ)) hI.sz ?_
      refine j_icmp_ge_F 9 cx 27 dX1_allPoints_9 (by decide) (nI_ge  (by omega) (by omega)) ?_
      refine j_iload_n 12 cx 1 dX1_allPoints_12 rfl ?_
      refine j_aload_n 13 cx 2 dX1_allPoints_13 rfl ?_
      refine j_get 14 cx 0 7 (T := TX1) (v := .ref (q 4)) (fun _ h => List.mem_cons_of_mem _ (List.mem_append_right _ (h))) (List.mem_of_getElem? (i := 2) rfl) (ci := 0) rfl (by decide) rfl rfl rfl dX1_allPoints_14 ?_
      refine j_iload_n 17 cx 0 dX1_allPoints_17 rfl ?_
      refine j_iald 18 cx 4 k rfl rfl (by omega) (by decide) dX1_allPoints_18 ?_
      refine j_iadd 19 cx dX1_allPoints_19 ?_
      refine j_istore_n 20 cx [(1, .int ((sumF (σ 4) k) + (σ 4 k))), (2, .int (nI k)), (0, .ref o)] dX1_allPoints_20 (by decide) rfl ?_
      refine j_iinc 21 cx [(2, .int (nI (k + 1))), (1, .int ((sumF (σ 4) k) + (σ 4 k))), (0, .ref o)] 1 (nI (k + 1)) dX1_allPoints_21 rfl (iinc1 k) (by decide) rfl ?_
      refine j_goto 24 cx 4 dX1_allPoints_24 (by decide) ?_
      exact ih4 (k + 1) (by omega)
  exact L4 (szN σ) 0 (by omega)
set_option maxRecDepth 100000 in
set_option maxHeartbeats 4000000 in
theorem c_X5_as (l : Launch) (G : pG) (o : Nat) (ax : Nat → Nat) (qh qt qk : Nat → Nat) (S : St) (τ : Nu) (hI : Inv (sN S)) (hD : dyN (sN S) ≤ 9999) (p k0 : Int32) : KI l G yX5_as wsX5_as ({ frames := 2, cells := 0, slots := 0, locals := 43 } : Room) [.ref o, .int p, .int k0] (wXO o ax (sP S) ++ ([((ax 7), .inl (gI G, 7, .inl (sF S)))] ++ wN G (ax 1) qh (sN S))) (S := Unit) (fun _ => True) (fun u => (sp_as p k0 S).1) (fun u => wXO o ax (sP S) ++ ([((ax 7), .inl (gI G, 7, .inl (sF (sp_as p k0 S).2)))] ++ wN G (ax 1) qh (sN (sp_as p k0 S).2))) := by
  refine ki_of [(0, .ref o), (1, .int p), (2, .int k0)] (own := RX5) (cc := cX5_as) (nL := 3) (by decide +kernel) rfl rfl (Nat.le_of_ble_eq_true rfl) rfl (fun _ => rfl) (fun K cx fin => ?_)
  refine j_aload_n 0 cx 0 dX5_as_0 rfl ?_
  refine j_iload_n 1 cx 1 dX5_as_1 rfl ?_
  refine j_callV_i 2 cx 1 [0, 2, 3, 4, 5, 6, 7, 8] [.int p] (fun _ => wXO o ax (sP S) ++ ([((ax 7), .inl (gI G, 7, .inl (sF S)))] ++ wN G (ax 1) qh (sN S))) (c_X5_hasPart (kl K) G o ax (sP S) qh (sN S) p hI) gX5_as_X5_hasPart rfl rfl rfl ⟨rfl, by decide, by decide, rfl⟩ ⟨Nat.le_of_ble_eq_true rfl, Nat.le_of_ble_eq_true rfl⟩ ⟨Nat.zero_le _, Nat.zero_le _⟩ rfl (by decide) (ci := 4) 0 rfl rfl rfl rfl rfl (Nat.le_of_ble_eq_true rfl) dX5_as_2 (fun _ => rfl) (fun zu1 zk1 => ?_)
  refine j_top (bI (inI p 0 (nI (szN (sN S)) - 1))) rfl ?_
  refine j_ifB_eq 5 cx 15 dX5_as_5 (by decide) (fun zc1 => ?_) (fun zc1 => ?_)
  · skip
    refine j_aload_n 15 cx 0 dX5_as_15 rfl ?_
    refine j_ldc 16 cx (v := -1000000001) (List.mem_of_getElem? (i := 1) rfl) dX5_as_16 ?_
    refine j_callV_i 18 cx 1 [0, 1] [.int (fcode 0)] (fun _ => wXO o ax (sP S) ++ ([((ax 7), .inl (gI G, 7, .inl (upd (sF S) 0 ((sF S) 0 + 1))))] ++ wN G (ax 1) qh (sN S))) (c_X5_finding (kl K) G o ax (sP S) (sF S) 0 (by decide)) gX5_as_X5_finding rfl rfl rfl ⟨rfl, by decide, by decide, rfl⟩ ⟨Nat.le_of_ble_eq_true rfl, Nat.le_of_ble_eq_true rfl⟩ ⟨Nat.zero_le _, Nat.zero_le _⟩ rfl (by decide) (ci := 4) 0 rfl rfl rfl rfl rfl (Nat.le_of_ble_eq_true rfl) dX5_as_18 (fun _ => rfl) (fun zu2 zk2 => ?_)
    refine j_top (fcode 0) rfl ?_
    have ze : (sp_as p k0 S) = bad S 0 := by unfold sp_as; simp [isP_eq hI, zc1]
    exact fin () _ _ _ _ dX5_as_21 rfl (by rw [ze] <;> rfl) (by rw [ze] <;> rfl) trivial
  · skip
    obtain ⟨k, hk, rfl⟩ := in_n (by have := hI.sz8; omega) zc1
    have h8 := hI.sz8
    have hkc : (nI k).toNatClampNeg = k := nI_clamp (by omega)
    refine j_iload_n 8 cx 2 dX5_as_8 rfl ?_
    refine j_callS_i 9 cx 1 [] [.int k0] (fun _ => wXO o ax (sP S) ++ ([((ax 7), .inl (gI G, 7, .inl (sF S)))] ++ wN G (ax 1) qh (sN S))) (c_X5_isKind (kl K) G k0) gX5_as_X5_isKind rfl rfl rfl ⟨by decide, by decide, rfl⟩ ⟨Nat.le_of_ble_eq_true rfl, Nat.le_of_ble_eq_true rfl⟩ ⟨Nat.zero_le _, Nat.zero_le _⟩ rfl (by decide) rfl rfl (Nat.le_of_ble_eq_true rfl) dX5_as_9 (fun _ => rfl) (fun zu3 zk3 => ?_)
    refine j_top (bI (inI k0 0 5)) rfl ?_
    refine j_ifB_ne 12 cx 22 dX5_as_12 (by decide) (fun zc2 => ?_) (fun zc2 => ?_)
    · skip
      refine j_aload_n 22 cx 0 dX5_as_22 rfl ?_
      refine j_get 23 cx 0 0 (T := TX5) (v := .ref ((ax 1))) (fun _ h => List.mem_cons_of_mem _ (List.mem_append_left _ (List.mem_append_right _ (h)))) (List.mem_of_getElem? (i := 2) rfl) (ci := 4) rfl (by decide) rfl rfl rfl dX5_as_23 ?_
      refine j_get 26 cx 2 5 (T := TX1) (v := .ref (qh 2)) (fun _ h => List.mem_cons_of_mem _ (List.mem_append_right _ (h))) (List.mem_of_getElem? (i := 3) rfl) (ci := 0) rfl (by decide) rfl rfl rfl dX5_as_26 ?_
      refine j_iload_n 29 cx 1 dX5_as_29 rfl ?_
      refine j_iald 30 cx 4 k rfl rfl (by omega) (by decide) dX5_as_30 ?_
      refine j_iload_n 31 cx 2 dX5_as_31 rfl ?_
      refine j_callS_i 32 cx 2 [] [.int ((sN S) 2 k), .int k0] (fun _ => wXO o ax (sP S) ++ ([((ax 7), .inl (gI G, 7, .inl (sF S)))] ++ wN G (ax 1) qh (sN S))) (c_X0_isUnder (kl K) G ((sN S) 2 k) k0) gX5_as_X0_isUnder rfl rfl rfl ⟨by decide, by decide, rfl⟩ ⟨Nat.le_of_ble_eq_true rfl, Nat.le_of_ble_eq_true rfl⟩ ⟨Nat.zero_le _, Nat.zero_le _⟩ rfl (by decide) rfl rfl (Nat.le_of_ble_eq_true rfl) dX5_as_32 (fun _ => rfl) (fun zu4 zk4 => ?_)
      refine j_top (bI (decide ((sN S) 2 k = k0 ∨ k0 = 0 ∨ ((sN S) 2 k = 4 ∧ k0 = 1) ∨ ((sN S) 2 k = 5 ∧ k0 = 2)))) rfl ?_
      refine j_ifB_ne 35 cx 45 dX5_as_35 (by decide) (fun zc3 => ?_) (fun zc3 => ?_)
      · skip
        refine j_aload_n 45 cx 0 dX5_as_45 rfl ?_
        refine j_get 46 cx 0 0 (T := TX5) (v := .ref ((ax 1))) (fun _ h => List.mem_cons_of_mem _ (List.mem_append_left _ (List.mem_append_right _ (h)))) (List.mem_of_getElem? (i := 2) rfl) (ci := 4) rfl (by decide) rfl rfl rfl dX5_as_46 ?_
        refine j_get 49 cx 2 7 (T := TX1) (v := .ref (qh 4)) (fun _ h => List.mem_cons_of_mem _ (List.mem_append_right _ (h))) (List.mem_of_getElem? (i := 5) rfl) (ci := 0) rfl (by decide) rfl rfl rfl dX5_as_49 ?_
        refine j_iload_n 52 cx 1 dX5_as_52 rfl ?_
        refine j_iald 53 cx 6 k rfl rfl (by omega) (by decide) dX5_as_53 ?_
        have ze : (sp_as (nI k) k0 S) = ((sN S) 4 k, S) := by unfold sp_as; simp [isP_eq hI, zc1, hkc, zc2, zc3, of_decide_eq_true zc3]
        exact fin () _ _ _ _ dX5_as_54 rfl (by rw [ze] <;> rfl) (by rw [ze] <;> rfl) trivial
      · skip
        refine j_aload_n 38 cx 0 dX5_as_38 rfl ?_
        refine j_ldc 39 cx (v := -1000000003) (List.mem_of_getElem? (i := 4) rfl) dX5_as_39 ?_
        refine j_callV_i 41 cx 1 [0, 1] [.int (fcode 2)] (fun _ => wXO o ax (sP S) ++ ([((ax 7), .inl (gI G, 7, .inl (upd (sF S) 2 ((sF S) 2 + 1))))] ++ wN G (ax 1) qh (sN S))) (c_X5_finding (kl K) G o ax (sP S) (sF S) 2 (by decide)) gX5_as_X5_finding rfl rfl rfl ⟨rfl, by decide, by decide, rfl⟩ ⟨Nat.le_of_ble_eq_true rfl, Nat.le_of_ble_eq_true rfl⟩ ⟨Nat.zero_le _, Nat.zero_le _⟩ rfl (by decide) (ci := 4) 0 rfl rfl rfl rfl rfl (Nat.le_of_ble_eq_true rfl) dX5_as_41 (fun _ => rfl) (fun zu5 zk5 => ?_)
        refine j_top (fcode 2) rfl ?_
        have ze : (sp_as (nI k) k0 S) = bad S 2 := by unfold sp_as; simp [isP_eq hI, zc1, hkc, zc2, zc3, of_decide_eq_false zc3]
        exact fin () _ _ _ _ dX5_as_44 rfl (by rw [ze] <;> rfl) (by rw [ze] <;> rfl) trivial
    · skip
      refine j_aload_n 15 cx 0 dX5_as_15 rfl ?_
      refine j_ldc 16 cx (v := -1000000001) (List.mem_of_getElem? (i := 1) rfl) dX5_as_16 ?_
      refine j_callV_i 18 cx 1 [0, 1] [.int (fcode 0)] (fun _ => wXO o ax (sP S) ++ ([((ax 7), .inl (gI G, 7, .inl (upd (sF S) 0 ((sF S) 0 + 1))))] ++ wN G (ax 1) qh (sN S))) (c_X5_finding (kl K) G o ax (sP S) (sF S) 0 (by decide)) gX5_as_X5_finding rfl rfl rfl ⟨rfl, by decide, by decide, rfl⟩ ⟨Nat.le_of_ble_eq_true rfl, Nat.le_of_ble_eq_true rfl⟩ ⟨Nat.zero_le _, Nat.zero_le _⟩ rfl (by decide) (ci := 4) 0 rfl rfl rfl rfl rfl (Nat.le_of_ble_eq_true rfl) dX5_as_18 (fun _ => rfl) (fun zu6 zk6 => ?_)
      refine j_top (fcode 0) rfl ?_
      have ze : (sp_as (nI k) k0 S) = bad S 0 := by unfold sp_as; simp [isP_eq hI, zc1, hkc, zc2]
      exact fin () _ _ _ _ dX5_as_21 rfl (by rw [ze] <;> rfl) (by rw [ze] <;> rfl) trivial
set_option maxRecDepth 100000 in
set_option maxHeartbeats 4000000 in
theorem c_X5_days (l : Launch) (G : pG) (o : Nat) (ax : Nat → Nat) (qh qt qk : Nat → Nat) (S : St) (τ : Nu) (hI : Inv (sN S)) (hD : dyN (sN S) ≤ 9999) (n : Int32) : KI l G yX5_days wsX5_days ({ frames := 6, cells := 0, slots := 0, locals := 140 } : Room) [.ref o, .int n] (wXO o ax (sP S) ++ ([((ax 7), .inl (gI G, 7, .inl (sF S)))] ++ wN G (ax 1) qh (sN S))) (S := Unit) (fun _ => True) (fun u => (sp_days n S).1) (fun u => wXO o ax (sP S) ++ ([((ax 7), .inl (gI G, 7, .inl (sF (sp_days n S).2)))] ++ wN G (ax 1) qh (sN (sp_days n S).2))) := by
  refine ki_of [(0, .ref o), (1, .int n)] (own := RX5) (cc := cX5_days) (nL := 2) (by decide +kernel) rfl rfl (Nat.le_of_ble_eq_true rfl) rfl (fun _ => rfl) (fun K cx fin => ?_)
  refine j_iload_n 0 cx 1 dX5_days_0 rfl ?_
  refine j_iconst 1 cx 1 dX5_days_1 (by decide) ?_
  refine j_bipush 2 cx 100 dX5_days_2 (by decide) ?_
  refine j_callS_i 4 cx 3 [] [.int n, .int 1, .int 100] (fun _ => wXO o ax (sP S) ++ ([((ax 7), .inl (gI G, 7, .inl (sF S)))] ++ wN G (ax 1) qh (sN S))) (c_X5_inside (kl K) G n 1 100) gX5_days_X5_inside rfl rfl rfl ⟨by decide, by decide, rfl⟩ ⟨Nat.le_of_ble_eq_true rfl, Nat.le_of_ble_eq_true rfl⟩ ⟨Nat.zero_le _, Nat.zero_le _⟩ rfl (by decide) rfl rfl (Nat.le_of_ble_eq_true rfl) dX5_days_4 (fun _ => rfl) (fun zu1 zk1 => ?_)
  refine j_top (bI (inI n 1 100)) rfl ?_
  refine j_ifB_ne 7 cx 17 dX5_days_7 (by decide) (fun zc1 => ?_) (fun zc1 => ?_)
  · skip
    obtain ⟨kn, hkn1, hkn2, rfl⟩ := in_c (L := 1) (M := 100) (a := 1) (m := 100) rfl rfl zc1
    have hckn : (nI kn).toNatClampNeg = kn := nI_clamp (by omega)
    refine j_aload_n 17 cx 0 dX5_days_17 rfl ?_
    refine j_get 18 cx 0 0 (T := TX5) (v := .ref ((ax 1))) (fun _ h => List.mem_cons_of_mem _ (List.mem_append_left _ (List.mem_append_right _ (h)))) (List.mem_of_getElem? (i := 2) rfl) (ci := 4) rfl (by decide) rfl rfl rfl dX5_days_18 ?_
    refine j_get 21 cx 2 0 (T := TX1) (v := .int ((sN S) 0 0)) (fun _ h => List.mem_cons_of_mem _ (List.mem_append_right _ (h))) (List.mem_of_getElem? (i := 3) rfl) (ci := 0) rfl (by decide) rfl rfl rfl dX5_days_21 ?_
    refine j_iload_n 24 cx 1 dX5_days_24 rfl ?_
    refine j_iadd 25 cx dX5_days_25 ?_
    refine j_sipush 26 cx 9999 dX5_days_26 (by decide) ?_
    refine j_icmp_le 29 cx 39 dX5_days_29 (by decide) (fun zc2 => ?_) (fun zc2 => ?_)
    · skip
      refine j_aload_n 39 cx 0 dX5_days_39 rfl ?_
      refine j_get 40 cx 0 0 (T := TX5) (v := .ref ((ax 1))) (fun _ h => List.mem_cons_of_mem _ (List.mem_append_left _ (List.mem_append_right _ (h)))) (List.mem_of_getElem? (i := 2) rfl) (ci := 4) rfl (by decide) rfl rfl rfl dX5_days_40 ?_
      refine j_iload_n 43 cx 1 dX5_days_43 rfl ?_
      refine j_callV_v 44 cx 1 [2, 3, 4, 5, 6, 7, 8] [.int (nI kn)] (fun _ => wXO o ax (sP S) ++ ([((ax 7), .inl (gI G, 7, .inl (sF S)))] ++ wN G (ax 1) qh (daysF (sN S) kn))) (c_X1_passDays (kl K) G (ax 1) qh (sN S) hI kn (by have := hD; omega)) gX5_days_X1_passDays rfl rfl rfl ⟨rfl, by decide, by decide, rfl⟩ ⟨Nat.le_of_ble_eq_true rfl, Nat.le_of_ble_eq_true rfl⟩ ⟨Nat.zero_le _, Nat.zero_le _⟩ rfl (by decide) (ci := 0) 0 rfl rfl rfl rfl rfl (Nat.le_of_ble_eq_true rfl) dX5_days_44 (fun _ => rfl) (fun zu2 zk2 => ?_)
      refine j_aload_n 47 cx 0 dX5_days_47 rfl ?_
      refine j_get 48 cx 0 0 (T := TX5) (v := .ref ((ax 1))) (fun _ h => List.mem_cons_of_mem _ (List.mem_append_left _ (List.mem_append_right _ (h)))) (List.mem_of_getElem? (i := 2) rfl) (ci := 4) rfl (by decide) rfl rfl rfl dX5_days_48 ?_
      refine j_callV_i 51 cx 0 [2, 3, 4, 5, 6, 7, 8] [] (fun _ => wXO o ax (sP S) ++ ([((ax 7), .inl (gI G, 7, .inl (sF S)))] ++ wN G (ax 1) qh (daysF (sN S) kn))) (c_X1_doneSet (kl K) G (ax 1) qh (daysF (sN S) kn) (inv_daysF hI kn (by have := hD; omega)).1) gX5_days_X1_doneSet rfl rfl rfl ⟨rfl, by decide, by decide, rfl⟩ ⟨Nat.le_of_ble_eq_true rfl, Nat.le_of_ble_eq_true rfl⟩ ⟨Nat.zero_le _, Nat.zero_le _⟩ rfl (by decide) (ci := 0) 0 rfl rfl rfl rfl rfl (Nat.le_of_ble_eq_true rfl) dX5_days_51 (fun _ => rfl) (fun zu3 zk3 => ?_)
      refine j_top (setF (daysF (sN S) kn) (done (daysF (sN S) kn)) (szN (daysF (sN S) kn))) rfl ?_
      have ze : (sp_days (nI kn) S) = (setF (daysF (sN S) kn) (done (daysF (sN S) kn)) (szN (daysF (sN S) kn)), stN S (daysF (sN S) kn)) := by unfold sp_days; simp [daysF_sz, zc1, hckn, Int32.not_lt.mpr zc2]
      exact fin () _ _ _ _ dX5_days_54 rfl (by rw [ze] <;> rfl) (by rw [ze] <;> rfl) trivial
    · skip
      refine j_aload_n 32 cx 0 dX5_days_32 rfl ?_
      refine j_ldc 33 cx (v := -1000000005) (List.mem_of_getElem? (i := 4) rfl) dX5_days_33 ?_
      refine j_callV_i 35 cx 1 [0, 1] [.int (fcode 4)] (fun _ => wXO o ax (sP S) ++ ([((ax 7), .inl (gI G, 7, .inl (upd (sF S) 4 ((sF S) 4 + 1))))] ++ wN G (ax 1) qh (sN S))) (c_X5_finding (kl K) G o ax (sP S) (sF S) 4 (by decide)) gX5_days_X5_finding rfl rfl rfl ⟨rfl, by decide, by decide, rfl⟩ ⟨Nat.le_of_ble_eq_true rfl, Nat.le_of_ble_eq_true rfl⟩ ⟨Nat.zero_le _, Nat.zero_le _⟩ rfl (by decide) (ci := 4) 0 rfl rfl rfl rfl rfl (Nat.le_of_ble_eq_true rfl) dX5_days_35 (fun _ => rfl) (fun zu4 zk4 => ?_)
      refine j_top (fcode 4) rfl ?_
      have ze : (sp_days (nI kn) S) = bad S 4 := by unfold sp_days; simp [daysF_sz, zc1, hckn, Int32.not_le.mp zc2]
      exact fin () _ _ _ _ dX5_days_38 rfl (by rw [ze] <;> rfl) (by rw [ze] <;> rfl) trivial
  · skip
    refine j_aload_n 10 cx 0 dX5_days_10 rfl ?_
    refine j_ldc 11 cx (v := -1000000001) (List.mem_of_getElem? (i := 1) rfl) dX5_days_11 ?_
    refine j_callV_i 13 cx 1 [0, 1] [.int (fcode 0)] (fun _ => wXO o ax (sP S) ++ ([((ax 7), .inl (gI G, 7, .inl (upd (sF S) 0 ((sF S) 0 + 1))))] ++ wN G (ax 1) qh (sN S))) (c_X5_finding (kl K) G o ax (sP S) (sF S) 0 (by decide)) gX5_days_X5_finding rfl rfl rfl ⟨rfl, by decide, by decide, rfl⟩ ⟨Nat.le_of_ble_eq_true rfl, Nat.le_of_ble_eq_true rfl⟩ ⟨Nat.zero_le _, Nat.zero_le _⟩ rfl (by decide) (ci := 4) 0 rfl rfl rfl rfl rfl (Nat.le_of_ble_eq_true rfl) dX5_days_13 (fun _ => rfl) (fun zu5 zk5 => ?_)
    refine j_top (fcode 0) rfl ?_
    have ze : (sp_days n S) = bad S 0 := by unfold sp_days; simp [daysF_sz, zc1]
    exact fin () _ _ _ _ dX5_days_16 rfl (by rw [ze] <;> rfl) (by rw [ze] <;> rfl) trivial
set_option maxRecDepth 100000 in
set_option maxHeartbeats 4000000 in
theorem c_X5_on (l : Launch) (G : pG) (o : Nat) (ax : Nat → Nat) (qh qt qk : Nat → Nat) (S : St) (τ : Nu) (hI : Inv (sN S)) (hD : dyN (sN S) ≤ 9999) (p n w : Int32) : KI l G yX5_on wsX5_on ({ frames := 6, cells := 0, slots := 0, locals := 140 } : Room) [.ref o, .int p, .int n, .int w] (wXO o ax (sP S) ++ ([((ax 7), .inl (gI G, 7, .inl (sF S)))] ++ (wN G (ax 1) qh (sN S) ++ wN G (ax 2) qt τ))) (S := Nu) (fun _ => True) (fun u => (sp_on p n w S).1) (fun u => wXO o ax (sP S) ++ ([((ax 7), .inl (gI G, 7, .inl (sF (sp_on p n w S).2)))] ++ (wN G (ax 1) qh (sN (sp_on p n w S).2) ++ wN G (ax 2) qt u))) := by
  refine ki_of [(0, .ref o), (1, .int p), (2, .int n), (3, .int w)] (own := RX5) (cc := cX5_on) (nL := 5) (by decide +kernel) rfl rfl (Nat.le_of_ble_eq_true rfl) rfl (fun _ => rfl) (fun K cx fin => ?_)
  refine j_aload_n 0 cx 0 dX5_on_0 rfl ?_
  refine j_iload_n 1 cx 1 dX5_on_1 rfl ?_
  refine j_callV_i 2 cx 1 [0, 2, 3, 4, 5, 6, 7, 8] [.int p] (fun _ => wXO o ax (sP S) ++ ([((ax 7), .inl (gI G, 7, .inl (sF S)))] ++ (wN G (ax 1) qh (sN S) ++ wN G (ax 2) qt τ))) (c_X5_hasPart (kl K) G o ax (sP S) qh (sN S) p hI) gX5_on_X5_hasPart rfl rfl rfl ⟨rfl, by decide, by decide, rfl⟩ ⟨Nat.le_of_ble_eq_true rfl, Nat.le_of_ble_eq_true rfl⟩ ⟨Nat.zero_le _, Nat.zero_le _⟩ rfl (by decide) (ci := 4) 0 rfl rfl rfl rfl rfl (Nat.le_of_ble_eq_true rfl) dX5_on_2 (fun _ => rfl) (fun zu1 zk1 => ?_)
  refine j_top (bI (inI p 0 (nI (szN (sN S)) - 1))) rfl ?_
  refine j_ifB_eq 5 cx 28 dX5_on_5 (by decide) (fun zc1 => ?_) (fun zc1 => ?_)
  · skip
    refine j_aload_n 28 cx 0 dX5_on_28 rfl ?_
    refine j_ldc 29 cx (v := -1000000001) (List.mem_of_getElem? (i := 1) rfl) dX5_on_29 ?_
    refine j_callV_i 31 cx 1 [0, 1] [.int (fcode 0)] (fun _ => wXO o ax (sP S) ++ ([((ax 7), .inl (gI G, 7, .inl (upd (sF S) 0 ((sF S) 0 + 1))))] ++ (wN G (ax 1) qh (sN S) ++ wN G (ax 2) qt τ))) (c_X5_finding (kl K) G o ax (sP S) (sF S) 0 (by decide)) gX5_on_X5_finding rfl rfl rfl ⟨rfl, by decide, by decide, rfl⟩ ⟨Nat.le_of_ble_eq_true rfl, Nat.le_of_ble_eq_true rfl⟩ ⟨Nat.zero_le _, Nat.zero_le _⟩ rfl (by decide) (ci := 4) 0 rfl rfl rfl rfl rfl (Nat.le_of_ble_eq_true rfl) dX5_on_31 (fun _ => rfl) (fun zu2 zk2 => ?_)
    refine j_top (fcode 0) rfl ?_
    have ze : (sp_on p n w S) = bad S 0 := by unfold sp_on; simp [isP_eq hI, zc1]
    exact fin τ _ _ _ _ dX5_on_34 rfl (by rw [ze] <;> rfl) (by rw [ze] <;> rfl) trivial
  · skip
    obtain ⟨k, hk, rfl⟩ := in_n (by have := hI.sz8; omega) zc1
    have h8 := hI.sz8
    have hkc : (nI k).toNatClampNeg = k := nI_clamp (by omega)
    refine j_iload_n 8 cx 2 dX5_on_8 rfl ?_
    refine j_iconst 9 cx 0 dX5_on_9 (by decide) ?_
    refine j_sipush 10 cx 400 dX5_on_10 (by decide) ?_
    refine j_callS_i 13 cx 3 [] [.int n, .int 0, .int 400] (fun _ => wXO o ax (sP S) ++ ([((ax 7), .inl (gI G, 7, .inl (sF S)))] ++ (wN G (ax 1) qh (sN S) ++ wN G (ax 2) qt τ))) (c_X5_inside (kl K) G n 0 400) gX5_on_X5_inside rfl rfl rfl ⟨by decide, by decide, rfl⟩ ⟨Nat.le_of_ble_eq_true rfl, Nat.le_of_ble_eq_true rfl⟩ ⟨Nat.zero_le _, Nat.zero_le _⟩ rfl (by decide) rfl rfl (Nat.le_of_ble_eq_true rfl) dX5_on_13 (fun _ => rfl) (fun zu3 zk3 => ?_)
    refine j_top (bI (inI n 0 400)) rfl ?_
    refine j_ifB_eq 16 cx 28 dX5_on_16 (by decide) (fun zc2 => ?_) (fun zc2 => ?_)
    · skip
      refine j_aload_n 28 cx 0 dX5_on_28 rfl ?_
      refine j_ldc 29 cx (v := -1000000001) (List.mem_of_getElem? (i := 1) rfl) dX5_on_29 ?_
      refine j_callV_i 31 cx 1 [0, 1] [.int (fcode 0)] (fun _ => wXO o ax (sP S) ++ ([((ax 7), .inl (gI G, 7, .inl (upd (sF S) 0 ((sF S) 0 + 1))))] ++ (wN G (ax 1) qh (sN S) ++ wN G (ax 2) qt τ))) (c_X5_finding (kl K) G o ax (sP S) (sF S) 0 (by decide)) gX5_on_X5_finding rfl rfl rfl ⟨rfl, by decide, by decide, rfl⟩ ⟨Nat.le_of_ble_eq_true rfl, Nat.le_of_ble_eq_true rfl⟩ ⟨Nat.zero_le _, Nat.zero_le _⟩ rfl (by decide) (ci := 4) 0 rfl rfl rfl rfl rfl (Nat.le_of_ble_eq_true rfl) dX5_on_31 (fun _ => rfl) (fun zu4 zk4 => ?_)
      refine j_top (fcode 0) rfl ?_
      have ze : (sp_on (nI k) n w S) = bad S 0 := by unfold sp_on; simp [isP_eq hI, zc1, hkc, zc2]
      exact fin τ _ _ _ _ dX5_on_34 rfl (by rw [ze] <;> rfl) (by rw [ze] <;> rfl) trivial
    · skip
      obtain ⟨kn, hkn1, hkn2, rfl⟩ := in_c (L := 0) (M := 400) (a := 0) (m := 400) rfl rfl zc2
      have hckn : (nI kn).toNatClampNeg = kn := nI_clamp (by omega)
      refine j_iload_n 19 cx 3 dX5_on_19 rfl ?_
      refine j_iconst 20 cx 0 dX5_on_20 (by decide) ?_
      refine j_iconst 21 cx 1 dX5_on_21 (by decide) ?_
      refine j_callS_i 22 cx 3 [] [.int w, .int 0, .int 1] (fun _ => wXO o ax (sP S) ++ ([((ax 7), .inl (gI G, 7, .inl (sF S)))] ++ (wN G (ax 1) qh (sN S) ++ wN G (ax 2) qt τ))) (c_X5_inside (kl K) G w 0 1) gX5_on_X5_inside rfl rfl rfl ⟨by decide, by decide, rfl⟩ ⟨Nat.le_of_ble_eq_true rfl, Nat.le_of_ble_eq_true rfl⟩ ⟨Nat.zero_le _, Nat.zero_le _⟩ rfl (by decide) rfl rfl (Nat.le_of_ble_eq_true rfl) dX5_on_22 (fun _ => rfl) (fun zu5 zk5 => ?_)
      refine j_top (bI (inI w 0 1)) rfl ?_
      refine j_ifB_ne 25 cx 35 dX5_on_25 (by decide) (fun zc3 => ?_) (fun zc3 => ?_)
      · skip
        rcases in_01 zc3 with rfl | rfl
        · skip
          refine j_aload_n 35 cx 0 dX5_on_35 rfl ?_
          refine j_callV_q 36 cx 0 [0, 2, 3, 4, 5, 6, 7, 8, 9, 10, 11, 12, 13, 14, 15] [] (fun _ => wXO o ax (sP S) ++ ([((ax 7), .inl (gI G, 7, .inl (sF S)))] ++ (wN G (ax 1) qh (sN S) ++ wN G (ax 2) qt (sN S)))) (c_X5_rehearsal (kl K) G o ax (sP S) qh qt (sN S) τ) gX5_on_X5_rehearsal rfl rfl rfl ⟨rfl, by decide, by decide, rfl⟩ ⟨Nat.le_of_ble_eq_true rfl, Nat.le_of_ble_eq_true rfl⟩ ⟨Nat.zero_le _, Nat.zero_le _⟩ rfl (by decide) (ci := 4) 0 rfl rfl rfl rfl rfl (Nat.le_of_ble_eq_true rfl) dX5_on_36 (fun _ => rfl) (fun zu6 zk6 => ?_)
          refine j_st (st' := [.ref ((ax 2))]) rfl ?_
          refine j_astore 39 cx [(4, .ref ((ax 2))), (0, .ref o), (1, .int (nI k)), (2, .int (nI kn)), (3, .int 0)] dX5_on_39 (by decide) rfl ?_
          refine j_aload 41 cx 0 dX5_on_41 rfl ?_
          refine j_iload_n 43 cx 3 dX5_on_43 rfl ?_
          refine j_callV_v 44 cx 1 [9, 10, 11, 12, 13, 14, 15] [.int (nI kn)] (fun _ => wXO o ax (sP S) ++ ([((ax 7), .inl (gI G, 7, .inl (sF S)))] ++ (wN G (ax 1) qh (sN S) ++ wN G (ax 2) qt (daysF (sN S) kn)))) (c_X1_passDays (kl K) G (ax 2) qt (sN S) hI kn (by have := hD; omega)) gX5_on_X1_passDays rfl rfl rfl ⟨rfl, by decide, by decide, rfl⟩ ⟨Nat.le_of_ble_eq_true rfl, Nat.le_of_ble_eq_true rfl⟩ ⟨Nat.zero_le _, Nat.zero_le _⟩ rfl (by decide) (ci := 0) 0 rfl rfl rfl rfl rfl (Nat.le_of_ble_eq_true rfl) dX5_on_44 (fun _ => rfl) (fun zu7 zk7 => ?_)
          refine j_iload_n 47 cx 4 dX5_on_47 rfl ?_
          refine j_if_ne_F 48 cx 61 dX5_on_48 (by decide) (by decide) ?_
          refine j_aload 51 cx 0 dX5_on_51 rfl ?_
          refine j_get 53 cx 9 7 (T := TX1) (v := .ref (qt 4)) (fun _ h => List.mem_cons_of_mem _ (List.mem_append_left _ (List.mem_append_right _ (h)))) (List.mem_of_getElem? (i := 2) rfl) (ci := 0) rfl (by decide) rfl rfl rfl dX5_on_53 ?_
          refine j_iload_n 56 cx 2 dX5_on_56 rfl ?_
          refine j_iald 57 cx 13 k rfl rfl (by omega) (by decide) dX5_on_57 ?_
          refine j_goto 58 cx 70 dX5_on_58 (by decide) ?_
          have ze : (sp_on (nI k) (nI kn) 0 S) = ((daysF (sN S) kn) 4 k, S) := by unfold sp_on; simp [isP_eq hI, zc1, hkc, zc2, hckn, zc3]
          exact fin (daysF (sN S) kn) _ _ _ _ dX5_on_70 rfl (by rw [ze] <;> rfl) (by rw [ze] <;> rfl) trivial
        · skip
          refine j_aload_n 35 cx 0 dX5_on_35 rfl ?_
          refine j_callV_q 36 cx 0 [0, 2, 3, 4, 5, 6, 7, 8, 9, 10, 11, 12, 13, 14, 15] [] (fun _ => wXO o ax (sP S) ++ ([((ax 7), .inl (gI G, 7, .inl (sF S)))] ++ (wN G (ax 1) qh (sN S) ++ wN G (ax 2) qt (sN S)))) (c_X5_rehearsal (kl K) G o ax (sP S) qh qt (sN S) τ) gX5_on_X5_rehearsal rfl rfl rfl ⟨rfl, by decide, by decide, rfl⟩ ⟨Nat.le_of_ble_eq_true rfl, Nat.le_of_ble_eq_true rfl⟩ ⟨Nat.zero_le _, Nat.zero_le _⟩ rfl (by decide) (ci := 4) 0 rfl rfl rfl rfl rfl (Nat.le_of_ble_eq_true rfl) dX5_on_36 (fun _ => rfl) (fun zu8 zk8 => ?_)
          refine j_st (st' := [.ref ((ax 2))]) rfl ?_
          refine j_astore 39 cx [(4, .ref ((ax 2))), (0, .ref o), (1, .int (nI k)), (2, .int (nI kn)), (3, .int 1)] dX5_on_39 (by decide) rfl ?_
          refine j_aload 41 cx 0 dX5_on_41 rfl ?_
          refine j_iload_n 43 cx 3 dX5_on_43 rfl ?_
          refine j_callV_v 44 cx 1 [9, 10, 11, 12, 13, 14, 15] [.int (nI kn)] (fun _ => wXO o ax (sP S) ++ ([((ax 7), .inl (gI G, 7, .inl (sF S)))] ++ (wN G (ax 1) qh (sN S) ++ wN G (ax 2) qt (daysF (sN S) kn)))) (c_X1_passDays (kl K) G (ax 2) qt (sN S) hI kn (by have := hD; omega)) gX5_on_X1_passDays rfl rfl rfl ⟨rfl, by decide, by decide, rfl⟩ ⟨Nat.le_of_ble_eq_true rfl, Nat.le_of_ble_eq_true rfl⟩ ⟨Nat.zero_le _, Nat.zero_le _⟩ rfl (by decide) (ci := 0) 0 rfl rfl rfl rfl rfl (Nat.le_of_ble_eq_true rfl) dX5_on_44 (fun _ => rfl) (fun zu9 zk9 => ?_)
          refine j_iload_n 47 cx 4 dX5_on_47 rfl ?_
          refine j_if_ne_T 48 cx 61 dX5_on_48 (by decide) (by decide) ?_
          refine j_aload 61 cx 0 dX5_on_61 rfl ?_
          refine j_iload_n 63 cx 2 dX5_on_63 rfl ?_
          refine j_callV_i 64 cx 1 [9, 10, 11, 12, 13, 14, 15] [.int (nI k)] (fun _ => wXO o ax (sP S) ++ ([((ax 7), .inl (gI G, 7, .inl (sF S)))] ++ (wN G (ax 1) qh (sN S) ++ wN G (ax 2) qt (daysF (sN S) kn)))) (c_X1_isDone (kl K) G (ax 2) qt (daysF (sN S) kn) k  (by omega)) gX5_on_X1_isDone rfl rfl rfl ⟨rfl, by decide, by decide, rfl⟩ ⟨Nat.le_of_ble_eq_true rfl, Nat.le_of_ble_eq_true rfl⟩ ⟨Nat.zero_le _, Nat.zero_le _⟩ rfl (by decide) (ci := 0) 0 rfl rfl rfl rfl rfl (Nat.le_of_ble_eq_true rfl) dX5_on_64 (fun _ => rfl) (fun zu10 zk10 => ?_)
          refine j_top (bI (done (daysF (sN S) kn) k)) rfl ?_
          refine j_callS_i 67 cx 1 [] [.int (bI (done (daysF (sN S) kn) k))] (fun _ => wXO o ax (sP S) ++ ([((ax 7), .inl (gI G, 7, .inl (sF S)))] ++ (wN G (ax 1) qh (sN S) ++ wN G (ax 2) qt (daysF (sN S) kn)))) (c_X5_bit (kl K) G (done (daysF (sN S) kn) k)) gX5_on_X5_bit rfl rfl rfl ⟨by decide, by decide, rfl⟩ ⟨Nat.le_of_ble_eq_true rfl, Nat.le_of_ble_eq_true rfl⟩ ⟨Nat.zero_le _, Nat.zero_le _⟩ rfl (by decide) rfl rfl (Nat.le_of_ble_eq_true rfl) dX5_on_67 (fun _ => rfl) (fun zu11 zk11 => ?_)
          refine j_top (bI (done (daysF (sN S) kn) k)) rfl ?_
          have ze : (sp_on (nI k) (nI kn) 1 S) = (bI (done (daysF (sN S) kn) k), S) := by unfold sp_on; simp [isP_eq hI, zc1, hkc, zc2, hckn, zc3]
          exact fin (daysF (sN S) kn) _ _ _ _ dX5_on_70 rfl (by rw [ze] <;> rfl) (by rw [ze] <;> rfl) trivial
      · skip
        refine j_aload_n 28 cx 0 dX5_on_28 rfl ?_
        refine j_ldc 29 cx (v := -1000000001) (List.mem_of_getElem? (i := 1) rfl) dX5_on_29 ?_
        refine j_callV_i 31 cx 1 [0, 1] [.int (fcode 0)] (fun _ => wXO o ax (sP S) ++ ([((ax 7), .inl (gI G, 7, .inl (upd (sF S) 0 ((sF S) 0 + 1))))] ++ (wN G (ax 1) qh (sN S) ++ wN G (ax 2) qt τ))) (c_X5_finding (kl K) G o ax (sP S) (sF S) 0 (by decide)) gX5_on_X5_finding rfl rfl rfl ⟨rfl, by decide, by decide, rfl⟩ ⟨Nat.le_of_ble_eq_true rfl, Nat.le_of_ble_eq_true rfl⟩ ⟨Nat.zero_le _, Nat.zero_le _⟩ rfl (by decide) (ci := 4) 0 rfl rfl rfl rfl rfl (Nat.le_of_ble_eq_true rfl) dX5_on_31 (fun _ => rfl) (fun zu12 zk12 => ?_)
        refine j_top (fcode 0) rfl ?_
        have ze : (sp_on (nI k) (nI kn) w S) = bad S 0 := by unfold sp_on; simp [isP_eq hI, zc1, hkc, zc2, hckn, zc3]
        exact fin τ _ _ _ _ dX5_on_34 rfl (by rw [ze] <;> rfl) (by rw [ze] <;> rfl) trivial
set_option maxRecDepth 100000 in
set_option maxHeartbeats 4000000 in
theorem c_X5_then (l : Launch) (G : pG) (o : Nat) (ax : Nat → Nat) (qh qt qk : Nat → Nat) (S : St) (τ : Nu) (hI : Inv (sN S)) (hD : dyN (sN S) ≤ 9999) (n w : Int32) : KI l G yX5_then wsX5_then ({ frames := 6, cells := 0, slots := 0, locals := 140 } : Room) [.ref o, .int n, .int w] (wXO o ax (sP S) ++ ([((ax 7), .inl (gI G, 7, .inl (sF S)))] ++ (wN G (ax 1) qh (sN S) ++ wN G (ax 2) qt τ))) (S := Nu) (fun _ => True) (fun u => (sp_then n w S).1) (fun u => wXO o ax (sP S) ++ ([((ax 7), .inl (gI G, 7, .inl (sF (sp_then n w S).2)))] ++ (wN G (ax 1) qh (sN (sp_then n w S).2) ++ wN G (ax 2) qt u))) := by
  refine ki_of [(0, .ref o), (1, .int n), (2, .int w)] (own := RX5) (cc := cX5_then) (nL := 4) (by decide +kernel) rfl rfl (Nat.le_of_ble_eq_true rfl) rfl (fun _ => rfl) (fun K cx fin => ?_)
  refine j_iload_n 0 cx 1 dX5_then_0 rfl ?_
  refine j_iconst 1 cx 0 dX5_then_1 (by decide) ?_
  refine j_sipush 2 cx 400 dX5_then_2 (by decide) ?_
  refine j_callS_i 5 cx 3 [] [.int n, .int 0, .int 400] (fun _ => wXO o ax (sP S) ++ ([((ax 7), .inl (gI G, 7, .inl (sF S)))] ++ (wN G (ax 1) qh (sN S) ++ wN G (ax 2) qt τ))) (c_X5_inside (kl K) G n 0 400) gX5_then_X5_inside rfl rfl rfl ⟨by decide, by decide, rfl⟩ ⟨Nat.le_of_ble_eq_true rfl, Nat.le_of_ble_eq_true rfl⟩ ⟨Nat.zero_le _, Nat.zero_le _⟩ rfl (by decide) rfl rfl (Nat.le_of_ble_eq_true rfl) dX5_then_5 (fun _ => rfl) (fun zu1 zk1 => ?_)
  refine j_top (bI (inI n 0 400)) rfl ?_
  refine j_ifB_eq 8 cx 20 dX5_then_8 (by decide) (fun zc1 => ?_) (fun zc1 => ?_)
  · skip
    refine j_aload_n 20 cx 0 dX5_then_20 rfl ?_
    refine j_ldc 21 cx (v := -1000000001) (List.mem_of_getElem? (i := 1) rfl) dX5_then_21 ?_
    refine j_callV_i 23 cx 1 [0, 1] [.int (fcode 0)] (fun _ => wXO o ax (sP S) ++ ([((ax 7), .inl (gI G, 7, .inl (upd (sF S) 0 ((sF S) 0 + 1))))] ++ (wN G (ax 1) qh (sN S) ++ wN G (ax 2) qt τ))) (c_X5_finding (kl K) G o ax (sP S) (sF S) 0 (by decide)) gX5_then_X5_finding rfl rfl rfl ⟨rfl, by decide, by decide, rfl⟩ ⟨Nat.le_of_ble_eq_true rfl, Nat.le_of_ble_eq_true rfl⟩ ⟨Nat.zero_le _, Nat.zero_le _⟩ rfl (by decide) (ci := 4) 0 rfl rfl rfl rfl rfl (Nat.le_of_ble_eq_true rfl) dX5_then_23 (fun _ => rfl) (fun zu2 zk2 => ?_)
    refine j_top (fcode 0) rfl ?_
    have ze : (sp_then n w S) = bad S 0 := by unfold sp_then; simp [daysF_sz, zc1]
    exact fin τ _ _ _ _ dX5_then_26 rfl (by rw [ze] <;> rfl) (by rw [ze] <;> rfl) trivial
  · skip
    obtain ⟨kn, hkn1, hkn2, rfl⟩ := in_c (L := 0) (M := 400) (a := 0) (m := 400) rfl rfl zc1
    have hckn : (nI kn).toNatClampNeg = kn := nI_clamp (by omega)
    refine j_iload_n 11 cx 2 dX5_then_11 rfl ?_
    refine j_iconst 12 cx 0 dX5_then_12 (by decide) ?_
    refine j_iconst 13 cx 2 dX5_then_13 (by decide) ?_
    refine j_callS_i 14 cx 3 [] [.int w, .int 0, .int 2] (fun _ => wXO o ax (sP S) ++ ([((ax 7), .inl (gI G, 7, .inl (sF S)))] ++ (wN G (ax 1) qh (sN S) ++ wN G (ax 2) qt τ))) (c_X5_inside (kl K) G w 0 2) gX5_then_X5_inside rfl rfl rfl ⟨by decide, by decide, rfl⟩ ⟨Nat.le_of_ble_eq_true rfl, Nat.le_of_ble_eq_true rfl⟩ ⟨Nat.zero_le _, Nat.zero_le _⟩ rfl (by decide) rfl rfl (Nat.le_of_ble_eq_true rfl) dX5_then_14 (fun _ => rfl) (fun zu3 zk3 => ?_)
    refine j_top (bI (inI w 0 2)) rfl ?_
    refine j_ifB_ne 17 cx 27 dX5_then_17 (by decide) (fun zc2 => ?_) (fun zc2 => ?_)
    · skip
      rcases in_02 zc2 with rfl | rfl | rfl
      · skip
        refine j_aload_n 27 cx 0 dX5_then_27 rfl ?_
        refine j_callV_q 28 cx 0 [0, 2, 3, 4, 5, 6, 7, 8, 9, 10, 11, 12, 13, 14, 15] [] (fun _ => wXO o ax (sP S) ++ ([((ax 7), .inl (gI G, 7, .inl (sF S)))] ++ (wN G (ax 1) qh (sN S) ++ wN G (ax 2) qt (sN S)))) (c_X5_rehearsal (kl K) G o ax (sP S) qh qt (sN S) τ) gX5_then_X5_rehearsal rfl rfl rfl ⟨rfl, by decide, by decide, rfl⟩ ⟨Nat.le_of_ble_eq_true rfl, Nat.le_of_ble_eq_true rfl⟩ ⟨Nat.zero_le _, Nat.zero_le _⟩ rfl (by decide) (ci := 4) 0 rfl rfl rfl rfl rfl (Nat.le_of_ble_eq_true rfl) dX5_then_28 (fun _ => rfl) (fun zu4 zk4 => ?_)
        refine j_st (st' := [.ref ((ax 2))]) rfl ?_
        refine j_astore_n 31 cx [(3, .ref ((ax 2))), (0, .ref o), (1, .int (nI kn)), (2, .int 0)] dX5_then_31 (by decide) rfl ?_
        refine j_aload_n 32 cx 0 dX5_then_32 rfl ?_
        refine j_iload_n 33 cx 2 dX5_then_33 rfl ?_
        refine j_callV_v 34 cx 1 [9, 10, 11, 12, 13, 14, 15] [.int (nI kn)] (fun _ => wXO o ax (sP S) ++ ([((ax 7), .inl (gI G, 7, .inl (sF S)))] ++ (wN G (ax 1) qh (sN S) ++ wN G (ax 2) qt (daysF (sN S) kn)))) (c_X1_passDays (kl K) G (ax 2) qt (sN S) hI kn (by omega)) gX5_then_X1_passDays rfl rfl rfl ⟨rfl, by decide, by decide, rfl⟩ ⟨Nat.le_of_ble_eq_true rfl, Nat.le_of_ble_eq_true rfl⟩ ⟨Nat.zero_le _, Nat.zero_le _⟩ rfl (by decide) (ci := 0) 0 rfl rfl rfl rfl rfl (Nat.le_of_ble_eq_true rfl) dX5_then_34 (fun _ => rfl) (fun zu5 zk5 => ?_)
        refine j_iload_n 37 cx 3 dX5_then_37 rfl ?_
        refine j_if_ne_F 38 cx 46 dX5_then_38 (by decide) (by decide) ?_
        refine j_aload_n 41 cx 0 dX5_then_41 rfl ?_
        refine j_get 42 cx 9 1 (T := TX1) (v := .int ((daysF (sN S) kn) 0 1)) (fun _ h => List.mem_cons_of_mem _ (List.mem_append_left _ (List.mem_append_right _ (h)))) (List.mem_of_getElem? (i := 2) rfl) (ci := 0) rfl (by decide) rfl rfl rfl dX5_then_42 ?_
        have ze : (sp_then (nI kn) 0 S) = ((daysF (sN S) kn) 0 1, S) := by unfold sp_then; simp [daysF_sz, zc1, hckn, zc2]
        exact fin (daysF (sN S) kn) _ _ _ _ dX5_then_45 rfl (by rw [ze] <;> rfl) (by rw [ze] <;> rfl) trivial
      · skip
        refine j_aload_n 27 cx 0 dX5_then_27 rfl ?_
        refine j_callV_q 28 cx 0 [0, 2, 3, 4, 5, 6, 7, 8, 9, 10, 11, 12, 13, 14, 15] [] (fun _ => wXO o ax (sP S) ++ ([((ax 7), .inl (gI G, 7, .inl (sF S)))] ++ (wN G (ax 1) qh (sN S) ++ wN G (ax 2) qt (sN S)))) (c_X5_rehearsal (kl K) G o ax (sP S) qh qt (sN S) τ) gX5_then_X5_rehearsal rfl rfl rfl ⟨rfl, by decide, by decide, rfl⟩ ⟨Nat.le_of_ble_eq_true rfl, Nat.le_of_ble_eq_true rfl⟩ ⟨Nat.zero_le _, Nat.zero_le _⟩ rfl (by decide) (ci := 4) 0 rfl rfl rfl rfl rfl (Nat.le_of_ble_eq_true rfl) dX5_then_28 (fun _ => rfl) (fun zu6 zk6 => ?_)
        refine j_st (st' := [.ref ((ax 2))]) rfl ?_
        refine j_astore_n 31 cx [(3, .ref ((ax 2))), (0, .ref o), (1, .int (nI kn)), (2, .int 1)] dX5_then_31 (by decide) rfl ?_
        refine j_aload_n 32 cx 0 dX5_then_32 rfl ?_
        refine j_iload_n 33 cx 2 dX5_then_33 rfl ?_
        refine j_callV_v 34 cx 1 [9, 10, 11, 12, 13, 14, 15] [.int (nI kn)] (fun _ => wXO o ax (sP S) ++ ([((ax 7), .inl (gI G, 7, .inl (sF S)))] ++ (wN G (ax 1) qh (sN S) ++ wN G (ax 2) qt (daysF (sN S) kn)))) (c_X1_passDays (kl K) G (ax 2) qt (sN S) hI kn (by omega)) gX5_then_X1_passDays rfl rfl rfl ⟨rfl, by decide, by decide, rfl⟩ ⟨Nat.le_of_ble_eq_true rfl, Nat.le_of_ble_eq_true rfl⟩ ⟨Nat.zero_le _, Nat.zero_le _⟩ rfl (by decide) (ci := 0) 0 rfl rfl rfl rfl rfl (Nat.le_of_ble_eq_true rfl) dX5_then_34 (fun _ => rfl) (fun zu7 zk7 => ?_)
        refine j_iload_n 37 cx 3 dX5_then_37 rfl ?_
        refine j_if_ne_T 38 cx 46 dX5_then_38 (by decide) (by decide) ?_
        refine j_iload_n 46 cx 3 dX5_then_46 rfl ?_
        refine j_iconst 47 cx 1 dX5_then_47 (by decide) ?_
        refine j_icmp_ne_F 48 cx 58 dX5_then_48 (by decide) (by decide) ?_
        refine j_aload_n 51 cx 0 dX5_then_51 rfl ?_
        refine j_get 52 cx 9 2 (T := TX1) (v := .int ((daysF (sN S) kn) 0 2)) (fun _ h => List.mem_cons_of_mem _ (List.mem_append_left _ (List.mem_append_right _ (h)))) (List.mem_of_getElem? (i := 3) rfl) (ci := 0) rfl (by decide) rfl rfl rfl dX5_then_52 ?_
        refine j_goto 55 cx 67 dX5_then_55 (by decide) ?_
        have ze : (sp_then (nI kn) 1 S) = ((daysF (sN S) kn) 0 2, S) := by unfold sp_then; simp [daysF_sz, zc1, hckn, zc2]
        exact fin (daysF (sN S) kn) _ _ _ _ dX5_then_67 rfl (by rw [ze] <;> rfl) (by rw [ze] <;> rfl) trivial
      · skip
        refine j_aload_n 27 cx 0 dX5_then_27 rfl ?_
        refine j_callV_q 28 cx 0 [0, 2, 3, 4, 5, 6, 7, 8, 9, 10, 11, 12, 13, 14, 15] [] (fun _ => wXO o ax (sP S) ++ ([((ax 7), .inl (gI G, 7, .inl (sF S)))] ++ (wN G (ax 1) qh (sN S) ++ wN G (ax 2) qt (sN S)))) (c_X5_rehearsal (kl K) G o ax (sP S) qh qt (sN S) τ) gX5_then_X5_rehearsal rfl rfl rfl ⟨rfl, by decide, by decide, rfl⟩ ⟨Nat.le_of_ble_eq_true rfl, Nat.le_of_ble_eq_true rfl⟩ ⟨Nat.zero_le _, Nat.zero_le _⟩ rfl (by decide) (ci := 4) 0 rfl rfl rfl rfl rfl (Nat.le_of_ble_eq_true rfl) dX5_then_28 (fun _ => rfl) (fun zu8 zk8 => ?_)
        refine j_st (st' := [.ref ((ax 2))]) rfl ?_
        refine j_astore_n 31 cx [(3, .ref ((ax 2))), (0, .ref o), (1, .int (nI kn)), (2, .int 2)] dX5_then_31 (by decide) rfl ?_
        refine j_aload_n 32 cx 0 dX5_then_32 rfl ?_
        refine j_iload_n 33 cx 2 dX5_then_33 rfl ?_
        refine j_callV_v 34 cx 1 [9, 10, 11, 12, 13, 14, 15] [.int (nI kn)] (fun _ => wXO o ax (sP S) ++ ([((ax 7), .inl (gI G, 7, .inl (sF S)))] ++ (wN G (ax 1) qh (sN S) ++ wN G (ax 2) qt (daysF (sN S) kn)))) (c_X1_passDays (kl K) G (ax 2) qt (sN S) hI kn (by omega)) gX5_then_X1_passDays rfl rfl rfl ⟨rfl, by decide, by decide, rfl⟩ ⟨Nat.le_of_ble_eq_true rfl, Nat.le_of_ble_eq_true rfl⟩ ⟨Nat.zero_le _, Nat.zero_le _⟩ rfl (by decide) (ci := 0) 0 rfl rfl rfl rfl rfl (Nat.le_of_ble_eq_true rfl) dX5_then_34 (fun _ => rfl) (fun zu9 zk9 => ?_)
        refine j_iload_n 37 cx 3 dX5_then_37 rfl ?_
        refine j_if_ne_T 38 cx 46 dX5_then_38 (by decide) (by decide) ?_
        refine j_iload_n 46 cx 3 dX5_then_46 rfl ?_
        refine j_iconst 47 cx 1 dX5_then_47 (by decide) ?_
        refine j_icmp_ne_T 48 cx 58 dX5_then_48 (by decide) (by decide) ?_
        refine j_aload_n 58 cx 0 dX5_then_58 rfl ?_
        refine j_get 59 cx 9 3 (T := TX1) (v := .int ((daysF (sN S) kn) 0 3)) (fun _ h => List.mem_cons_of_mem _ (List.mem_append_left _ (List.mem_append_right _ (h)))) (List.mem_of_getElem? (i := 4) rfl) (ci := 0) rfl (by decide) rfl rfl rfl dX5_then_59 ?_
        refine j_top (nI (szN (sN S))) ((inv_daysF hI kn (by have := hD; omega)).1.sz.trans (congrArg nI (daysF_sz _ _))) ?_
        refine j_aload_n 62 cx 0 dX5_then_62 rfl ?_
        refine j_callV_i 63 cx 0 [9, 10, 11, 12, 13, 14, 15] [] (fun _ => wXO o ax (sP S) ++ ([((ax 7), .inl (gI G, 7, .inl (sF S)))] ++ (wN G (ax 1) qh (sN S) ++ wN G (ax 2) qt (daysF (sN S) kn)))) (c_X1_undone (kl K) G (ax 2) qt (daysF (sN S) kn) (inv_daysF hI kn (by omega)).1) gX5_then_X1_undone rfl rfl rfl ⟨rfl, by decide, by decide, rfl⟩ ⟨Nat.le_of_ble_eq_true rfl, Nat.le_of_ble_eq_true rfl⟩ ⟨Nat.zero_le _, Nat.zero_le _⟩ rfl (by decide) (ci := 0) 0 rfl rfl rfl rfl rfl (Nat.le_of_ble_eq_true rfl) dX5_then_63 (fun _ => rfl) (fun zu10 zk10 => ?_)
        refine j_top (nI (undN (daysF (sN S) kn) (szN (daysF (sN S) kn)))) rfl ?_
        refine j_isub 66 cx dX5_then_66 ?_
        refine j_top (nI (szN (sN S) - undN (daysF (sN S) kn) (szN (daysF (sN S) kn)))) (pk_sub (by have h9 := undN_le (daysF (sN S) kn) (szN (daysF (sN S) kn)); have h7 := daysF_sz (sN S) kn; omega)) ?_
        have ze : (sp_then (nI kn) 2 S) = (nI (szN (sN S) - undN (daysF (sN S) kn) (szN (daysF (sN S) kn))), S) := by unfold sp_then; simp [daysF_sz, zc1, hckn, zc2]
        exact fin (daysF (sN S) kn) _ _ _ _ dX5_then_67 rfl (by rw [ze] <;> rfl) (by rw [ze] <;> rfl) trivial
    · skip
      refine j_aload_n 20 cx 0 dX5_then_20 rfl ?_
      refine j_ldc 21 cx (v := -1000000001) (List.mem_of_getElem? (i := 1) rfl) dX5_then_21 ?_
      refine j_callV_i 23 cx 1 [0, 1] [.int (fcode 0)] (fun _ => wXO o ax (sP S) ++ ([((ax 7), .inl (gI G, 7, .inl (upd (sF S) 0 ((sF S) 0 + 1))))] ++ (wN G (ax 1) qh (sN S) ++ wN G (ax 2) qt τ))) (c_X5_finding (kl K) G o ax (sP S) (sF S) 0 (by decide)) gX5_then_X5_finding rfl rfl rfl ⟨rfl, by decide, by decide, rfl⟩ ⟨Nat.le_of_ble_eq_true rfl, Nat.le_of_ble_eq_true rfl⟩ ⟨Nat.zero_le _, Nat.zero_le _⟩ rfl (by decide) (ci := 4) 0 rfl rfl rfl rfl rfl (Nat.le_of_ble_eq_true rfl) dX5_then_23 (fun _ => rfl) (fun zu11 zk11 => ?_)
      refine j_top (fcode 0) rfl ?_
      have ze : (sp_then (nI kn) w S) = bad S 0 := by unfold sp_then; simp [daysF_sz, zc1, hckn, zc2]
      exact fin τ _ _ _ _ dX5_then_26 rfl (by rw [ze] <;> rfl) (by rw [ze] <;> rfl) trivial
