set_option maxRecDepth 100000 in
set_option maxHeartbeats 4000000 in
theorem c_X6_lays_t (l : Launch) (G : pG) (o : Nat) (am : Nat → Nat) (S : St) (la tk be an va : Int32) (bd : Bool) (hI : Inv (sN S)) (k : Nat) (hk : k < 4) (hz : sZ S k ≤ 40) : KI l G yX6_lays wsX6_lays ({ frames := 3, cells := 0, slots := 0, locals := 64 } : Room) [.ref o, .int (nI k)] (wMO o am (sP S) la (nI (sL S)) tk be an va bd ++ ([((am 0), .inl (gI G, 51, .inl (mm (sN S))))] ++ ([((am 3), .inl (gI G, 7, .inl (sF S)))] ++ ([((am 5), .inl (gI G, 4, .inl (sB S)))] ++ ([((am 6), .inl (gI G, 4, .inl (zN (sZ S))))] ++ [((am 7), .inl (gJ G, 160, .inr (.inl (cm (sC S)))))]))))) (S := Unit) (fun _ => True) (fun u => (sp_lays (nI k) S).1) (fun u => wMO o am (sP S) la (nI (sL S)) tk be an va bd ++ ([((am 0), .inl (gI G, 51, .inl (mm (sN (sp_lays (nI k) S).2))))] ++ ([((am 3), .inl (gI G, 7, .inl (sF (sp_lays (nI k) S).2)))] ++ ([((am 5), .inl (gI G, 4, .inl (sB (sp_lays (nI k) S).2)))] ++ ([((am 6), .inl (gI G, 4, .inl (zN (sZ (sp_lays (nI k) S).2))))] ++ [((am 7), .inl (gJ G, 160, .inr (.inl (cm (sC (sp_lays (nI k) S).2)))))]))))) := by
  have h8 := hI.sz8
  refine ki_of [(0, .ref o), (1, .int (nI k))] (own := RX6) (cc := cX6_lays) (nL := 5) (by decide +kernel) rfl rfl (Nat.le_of_ble_eq_true rfl) rfl (fun _ => rfl) (fun K cx fin => ?_)
  refine j_aload_n 0 cx 0 dX6_lays_0 rfl ?_
  refine j_iload_n 1 cx 1 dX6_lays_1 rfl ?_
  rcases bcase (decide (sB S k = 0)) with zc1 | zc1
  · skip
    refine j_callV_i 2 cx 1 [0, 3] [.int (nI k)] (fun _ => wMO o am (sP S) la (nI (sL S)) tk be an va bd ++ ([((am 0), .inl (gI G, 51, .inl (mm (sN S))))] ++ ([((am 3), .inl (gI G, 7, .inl (sF S)))] ++ ([((am 5), .inl (gI G, 4, .inl (sB S)))] ++ ([((am 6), .inl (gI G, 4, .inl (zN (sZ S))))] ++ [((am 7), .inl (gJ G, 160, .inr (.inl (cm (sC S)))))]))))) (c_X6_notThere (kl K) G o am (sP S) la (nI (sL S)) tk be an va bd (sB S) (nI k)) gX6_lays_X6_notThere rfl rfl rfl ⟨rfl, by decide, by decide, rfl⟩ ⟨Nat.le_of_ble_eq_true rfl, Nat.le_of_ble_eq_true rfl⟩ ⟨Nat.zero_le _, Nat.zero_le _⟩ rfl (by decide) (ci := 5) 0 rfl rfl rfl rfl rfl (Nat.le_of_ble_eq_true rfl) dX6_lays_2 (fun _ => rfl) (fun zu1 zk1 => ?_)
    refine j_top (thF (sB S) (nI k)) rfl ?_
    refine j_top ((-1000000006)) (thF_0 hk zc1) ?_
    refine j_istore_n 5 cx [(2, .int ((-1000000006))), (0, .ref o), (1, .int (nI k))] dX6_lays_5 (by decide) rfl ?_
    refine j_iload_n 6 cx 0 dX6_lays_6 rfl ?_
    refine j_if_eq_F 7 cx 16 dX6_lays_7 (by decide) (by decide) ?_
    refine j_aload_n 10 cx 1 dX6_lays_10 rfl ?_
    refine j_iload_n 11 cx 0 dX6_lays_11 rfl ?_
    refine j_callV_i 12 cx 1 [0, 2] [.int (fcode 5)] (fun _ => wMO o am (sP S) la (nI (sL S)) tk be an va bd ++ ([((am 0), .inl (gI G, 51, .inl (mm (sN S))))] ++ ([((am 3), .inl (gI G, 7, .inl (upd (sF S) 5 ((sF S) 5 + 1))))] ++ ([((am 5), .inl (gI G, 4, .inl (sB S)))] ++ ([((am 6), .inl (gI G, 4, .inl (zN (sZ S))))] ++ [((am 7), .inl (gJ G, 160, .inr (.inl (cm (sC S)))))]))))) (c_X6_finds (kl K) G o am (sP S) la (nI (sL S)) tk be an va bd (sF S) 5 (by decide)) gX6_lays_X6_finds rfl rfl rfl ⟨rfl, by decide, by decide, rfl⟩ ⟨Nat.le_of_ble_eq_true rfl, Nat.le_of_ble_eq_true rfl⟩ ⟨Nat.zero_le _, Nat.zero_le _⟩ rfl (by decide) (ci := 5) 0 rfl rfl rfl rfl rfl (Nat.le_of_ble_eq_true rfl) dX6_lays_12 (fun _ => rfl) (fun zu2 zk2 => ?_)
    refine j_top (fcode 5) rfl ?_
    have ze : (sp_lays (nI k) S) = bad S 5 := by unfold sp_lays; simp [s_in hk, show pN (nI k) = k from nI_clamp (by omega), of_decide_eq_true zc1]
    exact fin () _ _ _ _ dX6_lays_15 rfl (by rw [ze] <;> rfl) (by rw [ze] <;> rfl) trivial
  · skip
    refine j_callV_i 2 cx 1 [0, 3] [.int (nI k)] (fun _ => wMO o am (sP S) la (nI (sL S)) tk be an va bd ++ ([((am 0), .inl (gI G, 51, .inl (mm (sN S))))] ++ ([((am 3), .inl (gI G, 7, .inl (sF S)))] ++ ([((am 5), .inl (gI G, 4, .inl (sB S)))] ++ ([((am 6), .inl (gI G, 4, .inl (zN (sZ S))))] ++ [((am 7), .inl (gJ G, 160, .inr (.inl (cm (sC S)))))]))))) (c_X6_notThere (kl K) G o am (sP S) la (nI (sL S)) tk be an va bd (sB S) (nI k)) gX6_lays_X6_notThere rfl rfl rfl ⟨rfl, by decide, by decide, rfl⟩ ⟨Nat.le_of_ble_eq_true rfl, Nat.le_of_ble_eq_true rfl⟩ ⟨Nat.zero_le _, Nat.zero_le _⟩ rfl (by decide) (ci := 5) 0 rfl rfl rfl rfl rfl (Nat.le_of_ble_eq_true rfl) dX6_lays_2 (fun _ => rfl) (fun zu3 zk3 => ?_)
    refine j_top (thF (sB S) (nI k)) rfl ?_
    refine j_top (0) (thF_1 hk zc1) ?_
    refine j_istore_n 5 cx [(2, .int 0), (0, .ref o), (1, .int (nI k))] dX6_lays_5 (by decide) rfl ?_
    refine j_iload_n 6 cx 0 dX6_lays_6 rfl ?_
    refine j_if_eq_T 7 cx 16 dX6_lays_7 (by decide) (by decide) ?_
    refine j_iconst 16 cx 0 dX6_lays_16 (by decide) ?_
    refine j_istore_n 17 cx [(3, .int 0), (2, .int 0), (0, .ref o), (1, .int (nI k))] dX6_lays_17 (by decide) rfl ?_
    refine j_iconst 18 cx 0 dX6_lays_18 (by decide) ?_
    refine j_istore 19 cx [(4, .int 0), (3, .int 0), (2, .int 0), (0, .ref o), (1, .int (nI k))] dX6_lays_19 (by decide) rfl ?_
    have L21 : ∀ d : Nat, ∀ (j : Nat), (j + d = min (sZ S k) (szN (sN S))) → JJ G K 0 0 (wMO o am (sP S) la (nI (sL S)) tk be an va bd ++ ([((am 0), .inl (gI G, 51, .inl (mm (layF (sC S k) (sN S) j).2)))] ++ ([((am 3), .inl (gI G, 7, .inl (sF S)))] ++ ([((am 5), .inl (gI G, 4, .inl (sB S)))] ++ ([((am 6), .inl (gI G, 4, .inl (zN (sZ S))))] ++ [((am 7), .inl (gJ G, 160, .inr (.inl (cm (sC S)))))]))))) [(4, .int (nI j)), (3, .int (nI ((layF (sC S k) (sN S) j).1))), (1, .int (nI k)), (0, .ref o)] 21 [] := by
      intro d
      induction d with
      | zero =>
        intro j hj
        refine j_iload 21 cx 0 dX6_lays_21 rfl ?_
        refine j_aload_n 23 cx 3 dX6_lays_23 rfl ?_
        refine j_get 24 cx 0 14 (T := TX6) (v := .ref ((am 6))) (fun _ h => List.mem_cons_of_mem _ (List.mem_append_right _ (h))) (List.mem_of_getElem? (i := 1) rfl) (ci := 5) rfl (by decide) rfl rfl rfl dX6_lays_24 ?_
        refine j_iload_n 27 cx 2 dX6_lays_27 rfl ?_
        refine j_iald 28 cx 4 k rfl rfl (by omega) (by decide) dX6_lays_28 ?_
        refine j_top (nI ((sZ S) k)) rfl ?_
        refine j_icmp_ge 29 cx 94 dX6_lays_29 (by decide) (fun zc2 => ?_) (fun zc2 => ?_)
        · skip
          refine j_iload_n 94 cx 1 dX6_lays_94 rfl ?_
          have ze : (sp_lays (nI k) S) = (nI ((layF (sC S k) (sN S) j).1), stN S (layF (sC S k) (sN S) j).2) := by unfold sp_lays; rw [if_pos (s_in hk), show pN (nI k) = k from nI_clamp (by omega), if_neg (of_decide_eq_false zc1), show min (sZ S k) (szN (sN S)) = j from by omega]
          exact fin () _ _ _ _ dX6_lays_95 rfl (by rw [ze] <;> rfl) (by rw [ze] <;> rfl) trivial
        · skip
          refine j_iload 32 cx 0 dX6_lays_32 rfl ?_
          refine j_aload_n 34 cx 3 dX6_lays_34 rfl ?_
          refine j_get 35 cx 0 0 (T := TX6) (v := .ref ((am 0))) (fun _ h => List.mem_cons_of_mem _ (List.mem_append_right _ (h))) (List.mem_of_getElem? (i := 2) rfl) (ci := 5) rfl (by decide) rfl rfl rfl dX6_lays_35 ?_
          refine j_iconst 38 cx 3 dX6_lays_38 (by decide) ?_
          refine j_iald 39 cx 1 3 rfl rfl (by omega) (by decide) dX6_lays_39 ?_
          refine j_top ((layF (sC S k) (sN S) j).2 0 3) rfl ?_
          refine j_top (nI (szN (sN S))) ((congrFun (layF_sz _ _ _) 3).trans hI.sz) ?_
          refine j_icmp_ge_T 40 cx 94 dX6_lays_40 (by decide) (nI_le (by have h9 := mt (fun q => nI_le (a := sZ S k) (b := j) q (by omega)) zc2; omega) (by omega)) ?_
          refine j_iload_n 94 cx 1 dX6_lays_94 rfl ?_
          have ze : (sp_lays (nI k) S) = (nI ((layF (sC S k) (sN S) j).1), stN S (layF (sC S k) (sN S) j).2) := by unfold sp_lays; rw [if_pos (s_in hk), show pN (nI k) = k from nI_clamp (by omega), if_neg (of_decide_eq_false zc1), show min (sZ S k) (szN (sN S)) = j from by omega]
          exact fin () _ _ _ _ dX6_lays_95 rfl (by rw [ze] <;> rfl) (by rw [ze] <;> rfl) trivial
      | succ d ih21 =>
        intro j hj
        refine j_iload 21 cx 0 dX6_lays_21 rfl ?_
        refine j_aload_n 23 cx 3 dX6_lays_23 rfl ?_
        refine j_get 24 cx 0 14 (T := TX6) (v := .ref ((am 6))) (fun _ h => List.mem_cons_of_mem _ (List.mem_append_right _ (h))) (List.mem_of_getElem? (i := 1) rfl) (ci := 5) rfl (by decide) rfl rfl rfl dX6_lays_24 ?_
        refine j_iload_n 27 cx 2 dX6_lays_27 rfl ?_
        refine j_iald 28 cx 4 k rfl rfl (by omega) (by decide) dX6_lays_28 ?_
        refine j_top (nI ((sZ S) k)) rfl ?_
        refine j_icmp_ge_F 29 cx 94 dX6_lays_29 (by decide) (nI_ge (by omega) (by omega)) ?_
        refine j_iload 32 cx 0 dX6_lays_32 rfl ?_
        refine j_aload_n 34 cx 3 dX6_lays_34 rfl ?_
        refine j_get 35 cx 0 0 (T := TX6) (v := .ref ((am 0))) (fun _ h => List.mem_cons_of_mem _ (List.mem_append_right _ (h))) (List.mem_of_getElem? (i := 2) rfl) (ci := 5) rfl (by decide) rfl rfl rfl dX6_lays_35 ?_
        refine j_iconst 38 cx 3 dX6_lays_38 (by decide) ?_
        refine j_iald 39 cx 1 3 rfl rfl (by omega) (by decide) dX6_lays_39 ?_
        refine j_top ((layF (sC S k) (sN S) j).2 0 3) rfl ?_
        refine j_top (nI (szN (sN S))) ((congrFun (layF_sz _ _ _) 3).trans hI.sz) ?_
        refine j_icmp_ge_F 40 cx 94 dX6_lays_40 (by decide) (nI_ge (by omega) (by omega)) ?_
        refine j_aload_n 43 cx 3 dX6_lays_43 rfl ?_
        refine j_get 44 cx 0 15 (T := TX6) (v := .ref ((am 7))) (fun _ h => List.mem_cons_of_mem _ (List.mem_append_right _ (h))) (List.mem_of_getElem? (i := 3) rfl) (ci := 5) rfl (by decide) rfl rfl rfl dX6_lays_44 ?_
        refine j_bipush 47 cx 40 dX6_lays_47 (by decide) ?_
        refine j_iload_n 49 cx 2 dX6_lays_49 rfl ?_
        refine j_imul 50 cx dX6_lays_50 ?_
        refine j_top (nI (40 * k)) (pk_mul 40 k) ?_
        refine j_iload 51 cx 0 dX6_lays_51 rfl ?_
        refine j_iadd 53 cx dX6_lays_53 ?_
        refine j_top (nI (40 * k + j)) (nI_add (40 * k) j) ?_
        refine j_lald 54 cx 5 (40 * k + j) rfl rfl (by omega) (by decide) dX6_lays_54 ?_
        refine j_topl ((sC S) k j) (cm_at _ k (by omega)) ?_
        refine j_iconst 55 cx 0 dX6_lays_55 (by decide) ?_
        refine j_sipush 56 cx 9999 dX6_lays_56 (by decide) ?_
        refine j_callS_i 59 cx 3 [] [.long ((sC S) k j), .int 0, .int 9999] (fun _ => wMO o am (sP S) la (nI (sL S)) tk be an va bd ++ ([((am 0), .inl (gI G, 51, .inl (mm (layF (sC S k) (sN S) j).2)))] ++ ([((am 3), .inl (gI G, 7, .inl (sF S)))] ++ ([((am 5), .inl (gI G, 4, .inl (sB S)))] ++ ([((am 6), .inl (gI G, 4, .inl (zN (sZ S))))] ++ [((am 7), .inl (gJ G, 160, .inr (.inl (cm (sC S)))))]))))) (c_X6_in (kl K) G ((sC S) k j) 0 9999) gX6_lays_X6_in rfl rfl rfl ⟨by decide, by decide, rfl⟩ ⟨Nat.le_of_ble_eq_true rfl, Nat.le_of_ble_eq_true rfl⟩ ⟨Nat.zero_le _, Nat.zero_le _⟩ rfl (by decide) rfl rfl (Nat.le_of_ble_eq_true rfl) dX6_lays_59 (fun _ => rfl) (fun zu4 zk4 => ?_)
        refine j_top (bI (inL ((sC S) k j) 0 9999)) rfl ?_
        refine j_ifB_eq 62 cx 88 dX6_lays_62 (by decide) (fun zc3 => ?_) (fun zc3 => ?_)
        · skip
          refine j_iinc 88 cx [(4, .int (nI (j + 1))), (3, .int (nI ((layF (sC S k) (sN S) j).1))), (1, .int (nI k)), (0, .ref o)] 0 (nI (j + 1)) dX6_lays_88 rfl (iinc1 j) (by decide) rfl ?_
          refine j_goto 91 cx 21 dX6_lays_91 (by decide) ?_
          have h9 := ih21 (j + 1) (by omega)
          rw [layF_f zc3] at h9
          exact h9
        · skip
          refine j_aload_n 65 cx 3 dX6_lays_65 rfl ?_
          refine j_iload 66 cx 0 dX6_lays_66 rfl ?_
          refine j_iconst 68 cx 3 dX6_lays_68 (by decide) ?_
          refine j_aload_n 69 cx 3 dX6_lays_69 rfl ?_
          refine j_get 70 cx 0 15 (T := TX6) (v := .ref ((am 7))) (fun _ h => List.mem_cons_of_mem _ (List.mem_append_right _ (h))) (List.mem_of_getElem? (i := 3) rfl) (ci := 5) rfl (by decide) rfl rfl rfl dX6_lays_70 ?_
          refine j_bipush 73 cx 40 dX6_lays_73 (by decide) ?_
          refine j_iload_n 75 cx 2 dX6_lays_75 rfl ?_
          refine j_imul 76 cx dX6_lays_76 ?_
          refine j_top (nI (40 * k)) (pk_mul 40 k) ?_
          refine j_iload 77 cx 0 dX6_lays_77 rfl ?_
          refine j_iadd 79 cx dX6_lays_79 ?_
          refine j_top (nI (40 * k + j)) (nI_add (40 * k) j) ?_
          refine j_lald 80 cx 5 (40 * k + j) rfl rfl (by omega) (by decide) dX6_lays_80 ?_
          refine j_topl ((sC S) k j) (cm_at _ k (by omega)) ?_
          refine j_l2i 81 cx dX6_lays_81 ?_
          refine j_callV_v 82 cx 3 [0, 1] [.int (nI j), .int 3, .int (((sC S) k j).toInt32)] (fun _ => wMO o am (sP S) la (nI (sL S)) tk be an va bd ++ ([((am 0), .inl (gI G, 51, .inl (mm (up2 (layF (sC S k) (sN S) j).2 5 j (((sC S) k j).toInt32)))))] ++ ([((am 3), .inl (gI G, 7, .inl (sF S)))] ++ ([((am 5), .inl (gI G, 4, .inl (sB S)))] ++ ([((am 6), .inl (gI G, 4, .inl (zN (sZ S))))] ++ [((am 7), .inl (gJ G, 160, .inr (.inl (cm (sC S)))))]))))) (c_X6_put (kl K) G o am (sP S) la (nI (sL S)) tk be an va bd (layF (sC S k) (sN S) j).2 j 3 (((sC S) k j).toInt32) (by omega) (by omega)) gX6_lays_X6_put rfl rfl rfl ⟨rfl, by decide, by decide, rfl⟩ ⟨Nat.le_of_ble_eq_true rfl, Nat.le_of_ble_eq_true rfl⟩ ⟨Nat.zero_le _, Nat.zero_le _⟩ rfl (by decide) (ci := 5) 0 rfl rfl rfl rfl rfl (Nat.le_of_ble_eq_true rfl) dX6_lays_82 (fun _ => rfl) (fun zu5 zk5 => ?_)
          refine j_iinc 85 cx [(3, .int (nI (((layF (sC S k) (sN S) j).1) + 1))), (4, .int (nI j)), (1, .int (nI k)), (0, .ref o)] 1 (nI (((layF (sC S k) (sN S) j).1) + 1)) dX6_lays_85 rfl (iinc1 ((layF (sC S k) (sN S) j).1)) (by decide) rfl ?_
          refine j_iinc 88 cx [(4, .int (nI (j + 1))), (3, .int (nI (((layF (sC S k) (sN S) j).1) + 1))), (1, .int (nI k)), (0, .ref o)] 1 (nI (j + 1)) dX6_lays_88 rfl (iinc1 j) (by decide) rfl ?_
          refine j_goto 91 cx 21 dX6_lays_91 (by decide) ?_
          have h9 := ih21 (j + 1) (by omega)
          rw [layF_t zc3] at h9
          exact h9
    refine j_lv [0, 1, 4, 3] rfl ?_
    exact L21 (min (sZ S k) (szN (sN S))) 0 (by omega)
set_option maxRecDepth 100000 in
set_option maxHeartbeats 4000000 in
theorem c_X6_lays_f (l : Launch) (G : pG) (o : Nat) (am : Nat → Nat) (S : St) (la tk be an va : Int32) (bd : Bool) (s : Int32) (hv : inI s 0 3 = false) : KI l G yX6_lays wsX6_lays ({ frames := 3, cells := 0, slots := 0, locals := 64 } : Room) [.ref o, .int s] (wMO o am (sP S) la (nI (sL S)) tk be an va bd ++ ([((am 0), .inl (gI G, 51, .inl (mm (sN S))))] ++ ([((am 3), .inl (gI G, 7, .inl (sF S)))] ++ ([((am 5), .inl (gI G, 4, .inl (sB S)))] ++ ([((am 6), .inl (gI G, 4, .inl (zN (sZ S))))] ++ [((am 7), .inl (gJ G, 160, .inr (.inl (cm (sC S)))))]))))) (S := Unit) (fun _ => True) (fun u => (sp_lays s S).1) (fun u => wMO o am (sP S) la (nI (sL S)) tk be an va bd ++ ([((am 0), .inl (gI G, 51, .inl (mm (sN (sp_lays s S).2))))] ++ ([((am 3), .inl (gI G, 7, .inl (sF (sp_lays s S).2)))] ++ ([((am 5), .inl (gI G, 4, .inl (sB (sp_lays s S).2)))] ++ ([((am 6), .inl (gI G, 4, .inl (zN (sZ (sp_lays s S).2))))] ++ [((am 7), .inl (gJ G, 160, .inr (.inl (cm (sC (sp_lays s S).2)))))]))))) := by
  refine ki_of [(0, .ref o), (1, .int s)] (own := RX6) (cc := cX6_lays) (nL := 5) (by decide +kernel) rfl rfl (Nat.le_of_ble_eq_true rfl) rfl (fun _ => rfl) (fun K cx fin => ?_)
  refine j_aload_n 0 cx 0 dX6_lays_0 rfl ?_
  refine j_iload_n 1 cx 1 dX6_lays_1 rfl ?_
  refine j_callV_i 2 cx 1 [0, 3] [.int s] (fun _ => wMO o am (sP S) la (nI (sL S)) tk be an va bd ++ ([((am 0), .inl (gI G, 51, .inl (mm (sN S))))] ++ ([((am 3), .inl (gI G, 7, .inl (sF S)))] ++ ([((am 5), .inl (gI G, 4, .inl (sB S)))] ++ ([((am 6), .inl (gI G, 4, .inl (zN (sZ S))))] ++ [((am 7), .inl (gJ G, 160, .inr (.inl (cm (sC S)))))]))))) (c_X6_notThere (kl K) G o am (sP S) la (nI (sL S)) tk be an va bd (sB S) s) gX6_lays_X6_notThere rfl rfl rfl ⟨rfl, by decide, by decide, rfl⟩ ⟨Nat.le_of_ble_eq_true rfl, Nat.le_of_ble_eq_true rfl⟩ ⟨Nat.zero_le _, Nat.zero_le _⟩ rfl (by decide) (ci := 5) 0 rfl rfl rfl rfl rfl (Nat.le_of_ble_eq_true rfl) dX6_lays_2 (fun _ => rfl) (fun zu1 zk1 => ?_)
  refine j_top (thF (sB S) s) rfl ?_
  refine j_top ((-1000000001)) (thF_f hv) ?_
  refine j_istore_n 5 cx [(2, .int ((-1000000001))), (0, .ref o), (1, .int s)] dX6_lays_5 (by decide) rfl ?_
  refine j_iload_n 6 cx 0 dX6_lays_6 rfl ?_
  refine j_if_eq_F 7 cx 16 dX6_lays_7 (by decide) (by decide) ?_
  refine j_aload_n 10 cx 1 dX6_lays_10 rfl ?_
  refine j_iload_n 11 cx 0 dX6_lays_11 rfl ?_
  refine j_callV_i 12 cx 1 [0, 2] [.int (fcode 0)] (fun _ => wMO o am (sP S) la (nI (sL S)) tk be an va bd ++ ([((am 0), .inl (gI G, 51, .inl (mm (sN S))))] ++ ([((am 3), .inl (gI G, 7, .inl (upd (sF S) 0 ((sF S) 0 + 1))))] ++ ([((am 5), .inl (gI G, 4, .inl (sB S)))] ++ ([((am 6), .inl (gI G, 4, .inl (zN (sZ S))))] ++ [((am 7), .inl (gJ G, 160, .inr (.inl (cm (sC S)))))]))))) (c_X6_finds (kl K) G o am (sP S) la (nI (sL S)) tk be an va bd (sF S) 0 (by decide)) gX6_lays_X6_finds rfl rfl rfl ⟨rfl, by decide, by decide, rfl⟩ ⟨Nat.le_of_ble_eq_true rfl, Nat.le_of_ble_eq_true rfl⟩ ⟨Nat.zero_le _, Nat.zero_le _⟩ rfl (by decide) (ci := 5) 0 rfl rfl rfl rfl rfl (Nat.le_of_ble_eq_true rfl) dX6_lays_12 (fun _ => rfl) (fun zu2 zk2 => ?_)
  refine j_top (fcode 0) rfl ?_
  have ze : (sp_lays s S) = bad S 0 := by unfold sp_lays; rw [if_neg (by rw [hv]; decide)]
  exact fin () _ _ _ _ dX6_lays_15 rfl (by rw [ze] <;> rfl) (by rw [ze] <;> rfl) trivial
set_option maxRecDepth 100000 in
set_option maxHeartbeats 4000000 in
theorem c_X6_book_t (l : Launch) (G : pG) (o : Nat) (am : Nat → Nat) (S : St) (la tk be an va : Int32) (bd : Bool) (ω : Nu) (hI : Inv (sN S)) (hD : dyN (sN S) ≤ 9999) (k : Nat) (hk : k < 4) (hz : sZ S k ≤ 40) : KI l G yX6_book wsX6_book ({ frames := 7, cells := 0, slots := 0, locals := 157 } : Room) [.ref o, .int (nI k)] (wMO o am (sP S) la (nI (sL S)) tk be an va bd ++ ([((am 0), .inl (gI G, 51, .inl (mm (sN S))))] ++ ([((am 3), .inl (gI G, 7, .inl (sF S)))] ++ ([((am 2), .inl (gI G, 51, .inl (mm ω)))] ++ ([((am 5), .inl (gI G, 4, .inl (sB S)))] ++ ([((am 6), .inl (gI G, 4, .inl (zN (sZ S))))] ++ [((am 7), .inl (gJ G, 160, .inr (.inl (cm (sC S)))))])))))) (S := (Int32 × Nu)) (fun _ => True) (fun u => (sp_book (nI k) S).1) (fun u => wMO o am (sP S) (u.1) (nI (sL S)) tk be an va bd ++ ([((am 0), .inl (gI G, 51, .inl (mm (sN (sp_book (nI k) S).2))))] ++ ([((am 3), .inl (gI G, 7, .inl (sF (sp_book (nI k) S).2)))] ++ ([((am 2), .inl (gI G, 51, .inl (mm u.2)))] ++ ([((am 5), .inl (gI G, 4, .inl (sB (sp_book (nI k) S).2)))] ++ ([((am 6), .inl (gI G, 4, .inl (zN (sZ (sp_book (nI k) S).2))))] ++ [((am 7), .inl (gJ G, 160, .inr (.inl (cm (sC (sp_book (nI k) S).2)))))])))))) := by
  refine ki_of [(0, .ref o), (1, .int (nI k))] (own := RX6) (cc := cX6_book) (nL := 4) (by decide +kernel) rfl rfl (Nat.le_of_ble_eq_true rfl) rfl (fun _ => rfl) (fun K cx fin => ?_)
  refine j_aload_n 0 cx 0 dX6_book_0 rfl ?_
  refine j_iload_n 1 cx 1 dX6_book_1 rfl ?_
  rcases bcase (decide (sB S k = 0)) with zc1 | zc1
  · skip
    refine j_callV_i 2 cx 1 [0, 4] [.int (nI k)] (fun _ => wMO o am (sP S) la (nI (sL S)) tk be an va bd ++ ([((am 0), .inl (gI G, 51, .inl (mm (sN S))))] ++ ([((am 3), .inl (gI G, 7, .inl (sF S)))] ++ ([((am 2), .inl (gI G, 51, .inl (mm ω)))] ++ ([((am 5), .inl (gI G, 4, .inl (sB S)))] ++ ([((am 6), .inl (gI G, 4, .inl (zN (sZ S))))] ++ [((am 7), .inl (gJ G, 160, .inr (.inl (cm (sC S)))))])))))) (c_X6_notThere (kl K) G o am (sP S) la (nI (sL S)) tk be an va bd (sB S) (nI k)) gX6_book_X6_notThere rfl rfl rfl ⟨rfl, by decide, by decide, rfl⟩ ⟨Nat.le_of_ble_eq_true rfl, Nat.le_of_ble_eq_true rfl⟩ ⟨Nat.zero_le _, Nat.zero_le _⟩ rfl (by decide) (ci := 5) 0 rfl rfl rfl rfl rfl (Nat.le_of_ble_eq_true rfl) dX6_book_2 (fun _ => rfl) (fun zu1 zk1 => ?_)
    refine j_top (thF (sB S) (nI k)) rfl ?_
    refine j_top ((-1000000006)) (thF_0 hk zc1) ?_
    refine j_istore_n 5 cx [(2, .int ((-1000000006))), (0, .ref o), (1, .int (nI k))] dX6_book_5 (by decide) rfl ?_
    refine j_iload_n 6 cx 0 dX6_book_6 rfl ?_
    refine j_if_eq_F 7 cx 16 dX6_book_7 (by decide) (by decide) ?_
    refine j_aload_n 10 cx 1 dX6_book_10 rfl ?_
    refine j_iload_n 11 cx 0 dX6_book_11 rfl ?_
    refine j_callV_i 12 cx 1 [0, 2] [.int (fcode 5)] (fun _ => wMO o am (sP S) la (nI (sL S)) tk be an va bd ++ ([((am 0), .inl (gI G, 51, .inl (mm (sN S))))] ++ ([((am 3), .inl (gI G, 7, .inl (upd (sF S) 5 ((sF S) 5 + 1))))] ++ ([((am 2), .inl (gI G, 51, .inl (mm ω)))] ++ ([((am 5), .inl (gI G, 4, .inl (sB S)))] ++ ([((am 6), .inl (gI G, 4, .inl (zN (sZ S))))] ++ [((am 7), .inl (gJ G, 160, .inr (.inl (cm (sC S)))))])))))) (c_X6_finds (kl K) G o am (sP S) la (nI (sL S)) tk be an va bd (sF S) 5 (by decide)) gX6_book_X6_finds rfl rfl rfl ⟨rfl, by decide, by decide, rfl⟩ ⟨Nat.le_of_ble_eq_true rfl, Nat.le_of_ble_eq_true rfl⟩ ⟨Nat.zero_le _, Nat.zero_le _⟩ rfl (by decide) (ci := 5) 0 rfl rfl rfl rfl rfl (Nat.le_of_ble_eq_true rfl) dX6_book_12 (fun _ => rfl) (fun zu2 zk2 => ?_)
    refine j_top (fcode 5) rfl ?_
    have ze : (sp_book (nI k) S) = bad S 5 := by unfold sp_book; simp [s_in hk, show pN (nI k) = k from nI_clamp (by omega), of_decide_eq_true zc1]
    exact fin (la, ω) _ _ _ _ dX6_book_15 rfl (by rw [ze] <;> rfl) (by rw [ze] <;> rfl) trivial
  · skip
    refine j_callV_i 2 cx 1 [0, 4] [.int (nI k)] (fun _ => wMO o am (sP S) la (nI (sL S)) tk be an va bd ++ ([((am 0), .inl (gI G, 51, .inl (mm (sN S))))] ++ ([((am 3), .inl (gI G, 7, .inl (sF S)))] ++ ([((am 2), .inl (gI G, 51, .inl (mm ω)))] ++ ([((am 5), .inl (gI G, 4, .inl (sB S)))] ++ ([((am 6), .inl (gI G, 4, .inl (zN (sZ S))))] ++ [((am 7), .inl (gJ G, 160, .inr (.inl (cm (sC S)))))])))))) (c_X6_notThere (kl K) G o am (sP S) la (nI (sL S)) tk be an va bd (sB S) (nI k)) gX6_book_X6_notThere rfl rfl rfl ⟨rfl, by decide, by decide, rfl⟩ ⟨Nat.le_of_ble_eq_true rfl, Nat.le_of_ble_eq_true rfl⟩ ⟨Nat.zero_le _, Nat.zero_le _⟩ rfl (by decide) (ci := 5) 0 rfl rfl rfl rfl rfl (Nat.le_of_ble_eq_true rfl) dX6_book_2 (fun _ => rfl) (fun zu3 zk3 => ?_)
    refine j_top (thF (sB S) (nI k)) rfl ?_
    refine j_top (0) (thF_1 hk zc1) ?_
    refine j_istore_n 5 cx [(2, .int 0), (0, .ref o), (1, .int (nI k))] dX6_book_5 (by decide) rfl ?_
    refine j_iload_n 6 cx 0 dX6_book_6 rfl ?_
    refine j_if_eq_T 7 cx 16 dX6_book_7 (by decide) (by decide) ?_
    refine j_aload_n 16 cx 1 dX6_book_16 rfl ?_
    refine j_callV_v 17 cx 0 [0, 1, 3] [] (fun _ => wMO o am (sP S) la (nI (sL S)) tk be an va bd ++ ([((am 0), .inl (gI G, 51, .inl (mm (sN S))))] ++ ([((am 3), .inl (gI G, 7, .inl (sF S)))] ++ ([((am 2), .inl (gI G, 51, .inl (mm (sN S))))] ++ ([((am 5), .inl (gI G, 4, .inl (sB S)))] ++ ([((am 6), .inl (gI G, 4, .inl (zN (sZ S))))] ++ [((am 7), .inl (gJ G, 160, .inr (.inl (cm (sC S)))))])))))) (c_X6_thinks (kl K) G o am (sP S) la (nI (sL S)) tk be an va bd (sN S) ω) gX6_book_X6_thinks rfl rfl rfl ⟨rfl, by decide, by decide, rfl⟩ ⟨Nat.le_of_ble_eq_true rfl, Nat.le_of_ble_eq_true rfl⟩ ⟨Nat.zero_le _, Nat.zero_le _⟩ rfl (by decide) (ci := 5) 0 rfl rfl rfl rfl rfl (Nat.le_of_ble_eq_true rfl) dX6_book_17 (fun _ => rfl) (fun zu4 zk4 => ?_)
    refine j_iconst 20 cx 0 dX6_book_20 (by decide) ?_
    refine j_istore_n 21 cx [(3, .int 0), (2, .int 0), (0, .ref o), (1, .int (nI k))] dX6_book_21 (by decide) rfl ?_
    have L22 : ∀ d : Nat, ∀ (j : Nat) (zl : Int32), (j + d = sZ S k) → JJ G K 0 0 (wMO o am (sP S) zl (nI (sL S)) tk be an va bd ++ ([((am 0), .inl (gI G, 51, .inl (mm (daysF (sN S) j))))] ++ ([((am 3), .inl (gI G, 7, .inl (sF S)))] ++ ([((am 2), .inl (gI G, 51, .inl (mm (sN S))))] ++ ([((am 5), .inl (gI G, 4, .inl (sB S)))] ++ ([((am 6), .inl (gI G, 4, .inl (zN (sZ S))))] ++ [((am 7), .inl (gJ G, 160, .inr (.inl (cm (uA (sC S) k (bookF (sB S k) (sC S k) (sN S) j))))))])))))) [(3, .int (nI j)), (1, .int (nI k)), (0, .ref o)] 22 [] := by
      intro d
      induction d with
      | zero =>
        intro j zl hj
        refine j_iload_n 22 cx 0 dX6_book_22 rfl ?_
        refine j_aload_n 23 cx 2 dX6_book_23 rfl ?_
        refine j_get 24 cx 0 14 (T := TX6) (v := .ref ((am 6))) (fun _ h => List.mem_cons_of_mem _ (List.mem_append_right _ (h))) (List.mem_of_getElem? (i := 1) rfl) (ci := 5) rfl (by decide) rfl rfl rfl dX6_book_24 ?_
        refine j_iload_n 27 cx 1 dX6_book_27 rfl ?_
        refine j_iald 28 cx 5 k rfl rfl (by omega) (by decide) dX6_book_28 ?_
        refine j_top (nI ((sZ S) k)) rfl ?_
        refine j_icmp_ge_T 29 cx 67 dX6_book_29 (by decide) (nI_le (by omega) (by omega)) ?_
        refine j_aload_n 67 cx 2 dX6_book_67 rfl ?_
        refine j_callV_v 68 cx 0 [0, 1, 3] [] (fun _ => wMO o am (sP S) zl (nI (sL S)) tk be an va bd ++ ([((am 0), .inl (gI G, 51, .inl (mm (sN S))))] ++ ([((am 3), .inl (gI G, 7, .inl (sF S)))] ++ ([((am 2), .inl (gI G, 51, .inl (mm (sN S))))] ++ ([((am 5), .inl (gI G, 4, .inl (sB S)))] ++ ([((am 6), .inl (gI G, 4, .inl (zN (sZ S))))] ++ [((am 7), .inl (gJ G, 160, .inr (.inl (cm (uA (sC S) k (bookF (sB S k) (sC S k) (sN S) j))))))])))))) (c_X6_putsBack (kl K) G o am (sP S) zl (nI (sL S)) tk be an va bd (daysF (sN S) j) (sN S)) gX6_book_X6_putsBack rfl rfl rfl ⟨rfl, by decide, by decide, rfl⟩ ⟨Nat.le_of_ble_eq_true rfl, Nat.le_of_ble_eq_true rfl⟩ ⟨Nat.zero_le _, Nat.zero_le _⟩ rfl (by decide) (ci := 5) 0 rfl rfl rfl rfl rfl (Nat.le_of_ble_eq_true rfl) dX6_book_68 (fun _ => rfl) (fun zu5 zk5 => ?_)
        refine j_aload_n 71 cx 2 dX6_book_71 rfl ?_
        refine j_get 72 cx 0 14 (T := TX6) (v := .ref ((am 6))) (fun _ h => List.mem_cons_of_mem _ (List.mem_append_right _ (h))) (List.mem_of_getElem? (i := 1) rfl) (ci := 5) rfl (by decide) rfl rfl rfl dX6_book_72 ?_
        refine j_iload_n 75 cx 1 dX6_book_75 rfl ?_
        refine j_iald 76 cx 5 k rfl rfl (by omega) (by decide) dX6_book_76 ?_
        refine j_top (nI ((sZ S) k)) rfl ?_
        have ze : (sp_book (nI k) S) = (nI ((sZ S) k), stB S (sB S) (sZ S) (uA (sC S) k (bookF (sB S k) (sC S k) (sN S) j))) := by unfold sp_book; rw [if_pos (s_in hk), show pN (nI k) = k from nI_clamp (by omega), if_neg (of_decide_eq_false zc1), show sZ S k = j from by omega]
        exact fin (zl, (sN S)) _ _ _ _ dX6_book_77 rfl (by rw [ze] <;> rfl) (by rw [ze] <;> rfl) trivial
      | succ d ih22 =>
        intro j zl hj
        refine j_iload_n 22 cx 0 dX6_book_22 rfl ?_
        refine j_aload_n 23 cx 2 dX6_book_23 rfl ?_
        refine j_get 24 cx 0 14 (T := TX6) (v := .ref ((am 6))) (fun _ h => List.mem_cons_of_mem _ (List.mem_append_right _ (h))) (List.mem_of_getElem? (i := 1) rfl) (ci := 5) rfl (by decide) rfl rfl rfl dX6_book_24 ?_
        refine j_iload_n 27 cx 1 dX6_book_27 rfl ?_
        refine j_iald 28 cx 5 k rfl rfl (by omega) (by decide) dX6_book_28 ?_
        refine j_top (nI ((sZ S) k)) rfl ?_
        refine j_icmp_ge_F 29 cx 67 dX6_book_29 (by decide) (nI_ge (by omega) (by omega)) ?_
        refine j_aload_n 32 cx 2 dX6_book_32 rfl ?_
        refine j_get 33 cx 0 15 (T := TX6) (v := .ref ((am 7))) (fun _ h => List.mem_cons_of_mem _ (List.mem_append_right _ (h))) (List.mem_of_getElem? (i := 2) rfl) (ci := 5) rfl (by decide) rfl rfl rfl dX6_book_33 ?_
        refine j_bipush 36 cx 40 dX6_book_36 (by decide) ?_
        refine j_iload_n 38 cx 1 dX6_book_38 rfl ?_
        refine j_imul 39 cx dX6_book_39 ?_
        refine j_top (nI (40 * k)) (pk_mul 40 k) ?_
        refine j_iload_n 40 cx 0 dX6_book_40 rfl ?_
        refine j_iadd 41 cx dX6_book_41 ?_
        refine j_top (nI (40 * k + j)) (nI_add (40 * k) j) ?_
        refine j_aload_n 42 cx 2 dX6_book_42 rfl ?_
        refine j_get 43 cx 0 13 (T := TX6) (v := .ref ((am 5))) (fun _ h => List.mem_cons_of_mem _ (List.mem_append_right _ (h))) (List.mem_of_getElem? (i := 3) rfl) (ci := 5) rfl (by decide) rfl rfl rfl dX6_book_43 ?_
        refine j_iload_n 46 cx 1 dX6_book_46 rfl ?_
        refine j_iald 47 cx 4 k rfl rfl (by omega) (by decide) dX6_book_47 ?_
        refine j_aload_n 48 cx 2 dX6_book_48 rfl ?_
        refine j_callV_i 49 cx 0 [0, 1] [] (fun _ => wMO o am (sP S) zl (nI (sL S)) tk be an va bd ++ ([((am 0), .inl (gI G, 51, .inl (mm (daysF (sN S) j))))] ++ ([((am 3), .inl (gI G, 7, .inl (sF S)))] ++ ([((am 2), .inl (gI G, 51, .inl (mm (sN S))))] ++ ([((am 5), .inl (gI G, 4, .inl (sB S)))] ++ ([((am 6), .inl (gI G, 4, .inl (zN (sZ S))))] ++ [((am 7), .inl (gJ G, 160, .inr (.inl (cm (uA (sC S) k (bookF (sB S k) (sC S k) (sN S) j))))))])))))) (c_X6_loudest (kl K) G o am (sP S) zl (nI (sL S)) tk be an va bd (daysF (sN S) j)  (inv_daysF hI j (by have := hD; omega)).1 ) gX6_book_X6_loudest rfl rfl rfl ⟨rfl, by decide, by decide, rfl⟩ ⟨Nat.le_of_ble_eq_true rfl, Nat.le_of_ble_eq_true rfl⟩ ⟨Nat.zero_le _, Nat.zero_le _⟩ rfl (by decide) (ci := 5) 0 rfl rfl rfl rfl rfl (Nat.le_of_ble_eq_true rfl) dX6_book_49 (fun _ => rfl) (fun zu6 zk6 => ?_)
        refine j_top (oI (loud (daysF (sN S) j))) rfl ?_
        refine j_i2l 52 cx dX6_book_52 ?_
        refine j_callS_l 53 cx 2 [] [.int ((sB S) k), .long ((oI (loud (daysF (sN S) j))).toInt64)] (fun _ => wMO o am (sP S) zl (nI (sL S)) tk be an va bd ++ ([((am 0), .inl (gI G, 51, .inl (mm (daysF (sN S) j))))] ++ ([((am 3), .inl (gI G, 7, .inl (sF S)))] ++ ([((am 2), .inl (gI G, 51, .inl (mm (sN S))))] ++ ([((am 5), .inl (gI G, 4, .inl (sB S)))] ++ ([((am 6), .inl (gI G, 4, .inl (zN (sZ S))))] ++ [((am 7), .inl (gJ G, 160, .inr (.inl (cm (uA (sC S) k (bookF (sB S k) (sC S k) (sN S) j))))))])))))) (c_X6_cutTo (kl K) G ((sB S) k) ((oI (loud (daysF (sN S) j))).toInt64)) gX6_book_X6_cutTo rfl rfl rfl ⟨by decide, by decide, rfl⟩ ⟨Nat.le_of_ble_eq_true rfl, Nat.le_of_ble_eq_true rfl⟩ ⟨Nat.zero_le _, Nat.zero_le _⟩ rfl (by decide) rfl rfl (Nat.le_of_ble_eq_true rfl) dX6_book_53 (fun _ => rfl) (fun zu7 zk7 => ?_)
        refine j_topl (cutF ((sB S) k) ((oI (loud (daysF (sN S) j))).toInt64)) rfl ?_
        refine j_last 56 cx 6 (40 * k + j) (wMO o am (sP S) zl (nI (sL S)) tk be an va bd ++ ([((am 0), .inl (gI G, 51, .inl (mm (daysF (sN S) j))))] ++ ([((am 3), .inl (gI G, 7, .inl (sF S)))] ++ ([((am 2), .inl (gI G, 51, .inl (mm (sN S))))] ++ ([((am 5), .inl (gI G, 4, .inl (sB S)))] ++ ([((am 6), .inl (gI G, 4, .inl (zN (sZ S))))] ++ [((am 7), .inl (gJ G, 160, .inr (.inl (vp_updL (cm (uA (sC S) k (bookF (sB S k) (sC S k) (sN S) j))) (40 * k + j) (cutF ((sB S) k) ((oI (loud (daysF (sN S) j))).toInt64))))))])))))) rfl rfl (by omega) (by decide) rfl dX6_book_56 ?_
        refine j_ws (wMO o am (sP S) zl (nI (sL S)) tk be an va bd ++ ([((am 0), .inl (gI G, 51, .inl (mm (daysF (sN S) j))))] ++ ([((am 3), .inl (gI G, 7, .inl (sF S)))] ++ ([((am 2), .inl (gI G, 51, .inl (mm (sN S))))] ++ ([((am 5), .inl (gI G, 4, .inl (sB S)))] ++ ([((am 6), .inl (gI G, 4, .inl (zN (sZ S))))] ++ [((am 7), .inl (gJ G, 160, .inr (.inl (cm (uA (uA (sC S) k (bookF (sB S k) (sC S k) (sN S) j)) k (vp_updL ((uA (sC S) k (bookF (sB S k) (sC S k) (sN S) j)) k) j (cutF ((sB S) k) ((oI (loud (daysF (sN S) j))).toInt64))))))))])))))) (congrArg (fun zf : Nat → Int64 => wMO o am (sP S) zl (nI (sL S)) tk be an va bd ++ ([((am 0), .inl (gI G, 51, .inl (mm (daysF (sN S) j))))] ++ ([((am 3), .inl (gI G, 7, .inl (sF S)))] ++ ([((am 2), .inl (gI G, 51, .inl (mm (sN S))))] ++ ([((am 5), .inl (gI G, 4, .inl (sB S)))] ++ ([((am 6), .inl (gI G, 4, .inl (zN (sZ S))))] ++ [((am 7), .inl (gJ G, 160, .inr (.inl zf)))])))))) (cm_up _ k _ (by omega))) ?_
        refine j_aload_n 57 cx 2 dX6_book_57 rfl ?_
        refine j_callV_v 58 cx 0 [0, 1] [] (fun _ => wMO o am (sP S) (oI (loud (daysF (sN S) j))) (nI (sL S)) tk be an va bd ++ ([((am 0), .inl (gI G, 51, .inl (mm (dayF (daysF (sN S) j)))))] ++ ([((am 3), .inl (gI G, 7, .inl (sF S)))] ++ ([((am 2), .inl (gI G, 51, .inl (mm (sN S))))] ++ ([((am 5), .inl (gI G, 4, .inl (sB S)))] ++ ([((am 6), .inl (gI G, 4, .inl (zN (sZ S))))] ++ [((am 7), .inl (gJ G, 160, .inr (.inl (cm (uA (uA (sC S) k (bookF (sB S k) (sC S k) (sN S) j)) k (vp_updL ((uA (sC S) k (bookF (sB S k) (sC S k) (sN S) j)) k) j (cutF ((sB S) k) ((oI (loud (daysF (sN S) j))).toInt64))))))))])))))) (c_X6_goes (kl K) G o am (sP S) zl (nI (sL S)) tk be an va bd (daysF (sN S) j) (inv_daysF hI j (by have := hD; omega)).1) gX6_book_X6_goes rfl rfl rfl ⟨rfl, by decide, by decide, rfl⟩ ⟨Nat.le_of_ble_eq_true rfl, Nat.le_of_ble_eq_true rfl⟩ ⟨Nat.zero_le _, Nat.zero_le _⟩ rfl (by decide) (ci := 5) 0 rfl rfl rfl rfl rfl (Nat.le_of_ble_eq_true rfl) dX6_book_58 (fun _ => rfl) (fun zu8 zk8 => ?_)
        refine j_iinc 61 cx [(3, .int (nI (j + 1))), (1, .int (nI k)), (0, .ref o)] 0 (nI (j + 1)) dX6_book_61 rfl (iinc1 j) (by decide) rfl ?_
        refine j_goto 64 cx 22 dX6_book_64 (by decide) ?_
        have h9 := ih22 (j + 1) (oI (loud (daysF (sN S) j))) (by omega)
        rw [← bk_s] at h9
        exact h9
    refine j_lv [0, 3, 2] rfl ?_
    refine j_ws (wMO o am (sP S) la (nI (sL S)) tk be an va bd ++ ([((am 0), .inl (gI G, 51, .inl (mm (sN S))))] ++ ([((am 3), .inl (gI G, 7, .inl (sF S)))] ++ ([((am 2), .inl (gI G, 51, .inl (mm (sN S))))] ++ ([((am 5), .inl (gI G, 4, .inl (sB S)))] ++ ([((am 6), .inl (gI G, 4, .inl (zN (sZ S))))] ++ [((am 7), .inl (gJ G, 160, .inr (.inl (cm (uA (sC S) k (bookF (sB S k) (sC S k) (sN S) 0))))))])))))) (congrArg (fun zf : Nat → Nat → Int64 => wMO o am (sP S) la (nI (sL S)) tk be an va bd ++ ([((am 0), .inl (gI G, 51, .inl (mm (sN S))))] ++ ([((am 3), .inl (gI G, 7, .inl (sF S)))] ++ ([((am 2), .inl (gI G, 51, .inl (mm (sN S))))] ++ ([((am 5), .inl (gI G, 4, .inl (sB S)))] ++ ([((am 6), .inl (gI G, 4, .inl (zN (sZ S))))] ++ [((am 7), .inl (gJ G, 160, .inr (.inl (cm zf))))])))))) (show sC S = (uA (sC S) k (bookF (sB S k) (sC S k) (sN S) 0)) from (uA_id _ _).symm)) ?_
    exact L22 (sZ S k) 0 la (by omega)
set_option maxRecDepth 100000 in
set_option maxHeartbeats 4000000 in
theorem c_X6_book_f (l : Launch) (G : pG) (o : Nat) (am : Nat → Nat) (S : St) (la tk be an va : Int32) (bd : Bool) (ω : Nu) (hI : Inv (sN S)) (hD : dyN (sN S) ≤ 9999) (s : Int32) (hv : inI s 0 3 = false) : KI l G yX6_book wsX6_book ({ frames := 7, cells := 0, slots := 0, locals := 157 } : Room) [.ref o, .int s] (wMO o am (sP S) la (nI (sL S)) tk be an va bd ++ ([((am 0), .inl (gI G, 51, .inl (mm (sN S))))] ++ ([((am 3), .inl (gI G, 7, .inl (sF S)))] ++ ([((am 2), .inl (gI G, 51, .inl (mm ω)))] ++ ([((am 5), .inl (gI G, 4, .inl (sB S)))] ++ ([((am 6), .inl (gI G, 4, .inl (zN (sZ S))))] ++ [((am 7), .inl (gJ G, 160, .inr (.inl (cm (sC S)))))])))))) (S := (Int32 × Nu)) (fun _ => True) (fun u => (sp_book s S).1) (fun u => wMO o am (sP S) (u.1) (nI (sL S)) tk be an va bd ++ ([((am 0), .inl (gI G, 51, .inl (mm (sN (sp_book s S).2))))] ++ ([((am 3), .inl (gI G, 7, .inl (sF (sp_book s S).2)))] ++ ([((am 2), .inl (gI G, 51, .inl (mm u.2)))] ++ ([((am 5), .inl (gI G, 4, .inl (sB (sp_book s S).2)))] ++ ([((am 6), .inl (gI G, 4, .inl (zN (sZ (sp_book s S).2))))] ++ [((am 7), .inl (gJ G, 160, .inr (.inl (cm (sC (sp_book s S).2)))))])))))) := by
  refine ki_of [(0, .ref o), (1, .int s)] (own := RX6) (cc := cX6_book) (nL := 4) (by decide +kernel) rfl rfl (Nat.le_of_ble_eq_true rfl) rfl (fun _ => rfl) (fun K cx fin => ?_)
  refine j_aload_n 0 cx 0 dX6_book_0 rfl ?_
  refine j_iload_n 1 cx 1 dX6_book_1 rfl ?_
  refine j_callV_i 2 cx 1 [0, 4] [.int s] (fun _ => wMO o am (sP S) la (nI (sL S)) tk be an va bd ++ ([((am 0), .inl (gI G, 51, .inl (mm (sN S))))] ++ ([((am 3), .inl (gI G, 7, .inl (sF S)))] ++ ([((am 2), .inl (gI G, 51, .inl (mm ω)))] ++ ([((am 5), .inl (gI G, 4, .inl (sB S)))] ++ ([((am 6), .inl (gI G, 4, .inl (zN (sZ S))))] ++ [((am 7), .inl (gJ G, 160, .inr (.inl (cm (sC S)))))])))))) (c_X6_notThere (kl K) G o am (sP S) la (nI (sL S)) tk be an va bd (sB S) s) gX6_book_X6_notThere rfl rfl rfl ⟨rfl, by decide, by decide, rfl⟩ ⟨Nat.le_of_ble_eq_true rfl, Nat.le_of_ble_eq_true rfl⟩ ⟨Nat.zero_le _, Nat.zero_le _⟩ rfl (by decide) (ci := 5) 0 rfl rfl rfl rfl rfl (Nat.le_of_ble_eq_true rfl) dX6_book_2 (fun _ => rfl) (fun zu1 zk1 => ?_)
  refine j_top (thF (sB S) s) rfl ?_
  refine j_top ((-1000000001)) (thF_f hv) ?_
  refine j_istore_n 5 cx [(2, .int ((-1000000001))), (0, .ref o), (1, .int s)] dX6_book_5 (by decide) rfl ?_
  refine j_iload_n 6 cx 0 dX6_book_6 rfl ?_
  refine j_if_eq_F 7 cx 16 dX6_book_7 (by decide) (by decide) ?_
  refine j_aload_n 10 cx 1 dX6_book_10 rfl ?_
  refine j_iload_n 11 cx 0 dX6_book_11 rfl ?_
  refine j_callV_i 12 cx 1 [0, 2] [.int (fcode 0)] (fun _ => wMO o am (sP S) la (nI (sL S)) tk be an va bd ++ ([((am 0), .inl (gI G, 51, .inl (mm (sN S))))] ++ ([((am 3), .inl (gI G, 7, .inl (upd (sF S) 0 ((sF S) 0 + 1))))] ++ ([((am 2), .inl (gI G, 51, .inl (mm ω)))] ++ ([((am 5), .inl (gI G, 4, .inl (sB S)))] ++ ([((am 6), .inl (gI G, 4, .inl (zN (sZ S))))] ++ [((am 7), .inl (gJ G, 160, .inr (.inl (cm (sC S)))))])))))) (c_X6_finds (kl K) G o am (sP S) la (nI (sL S)) tk be an va bd (sF S) 0 (by decide)) gX6_book_X6_finds rfl rfl rfl ⟨rfl, by decide, by decide, rfl⟩ ⟨Nat.le_of_ble_eq_true rfl, Nat.le_of_ble_eq_true rfl⟩ ⟨Nat.zero_le _, Nat.zero_le _⟩ rfl (by decide) (ci := 5) 0 rfl rfl rfl rfl rfl (Nat.le_of_ble_eq_true rfl) dX6_book_12 (fun _ => rfl) (fun zu2 zk2 => ?_)
  refine j_top (fcode 0) rfl ?_
  have ze : (sp_book s S) = bad S 0 := by unfold sp_book; rw [if_neg (by rw [hv]; decide)]
  exact fin (la, ω) _ _ _ _ dX6_book_15 rfl (by rw [ze] <;> rfl) (by rw [ze] <;> rfl) trivial
set_option maxRecDepth 100000 in
set_option maxHeartbeats 4000000 in
theorem c_X6_isBook (l : Launch) (G : pG) (o : Nat) (am : Nat → Nat) (ik : Bool) (la tn tk be an va : Int32) (bd : Bool) (σ ω : Nu) (zf : Nat → Nat) (C : Nat → Nat → Int64) (hI : Inv σ) (k p : Nat) (hk : k < 4) (hp : p < 8) (hz : zf k ≤ 40) (hn : dyN σ + 40 < 1000000) : KI l G yX6_isBook wsX6_isBook ({ frames := 7, cells := 0, slots := 0, locals := 157 } : Room) [.ref o, .int (nI k), .int (nI p)] (wMO o am ik la tn tk be an va bd ++ ([((am 0), .inl (gI G, 51, .inl (mm σ)))] ++ ([((am 2), .inl (gI G, 51, .inl (mm ω)))] ++ ([((am 6), .inl (gI G, 4, .inl (zN zf)))] ++ [((am 7), .inl (gJ G, 160, .inr (.inl (cm C))))])))) (S := Int32) (fun _ => True) (fun u => bI (isBk (C k) p σ (zf k))) (fun u => wMO o am ik u tn tk be an va bd ++ ([((am 0), .inl (gI G, 51, .inl (mm ω)))] ++ ([((am 2), .inl (gI G, 51, .inl (mm ω)))] ++ ([((am 6), .inl (gI G, 4, .inl (zN zf)))] ++ [((am 7), .inl (gJ G, 160, .inr (.inl (cm C))))])))) := by
  refine ki_of [(0, .ref o), (1, .int (nI k)), (2, .int (nI p))] (own := RX6) (cc := cX6_isBook) (nL := 5) (by decide +kernel) rfl rfl (Nat.le_of_ble_eq_true rfl) rfl (fun _ => rfl) (fun K cx fin => ?_)
  refine j_iconst 0 cx 1 dX6_isBook_0 (by decide) ?_
  refine j_istore_n 1 cx [(3, .int 1), (0, .ref o), (1, .int (nI k)), (2, .int (nI p))] dX6_isBook_1 (by decide) rfl ?_
  refine j_iconst 2 cx 0 dX6_isBook_2 (by decide) ?_
  refine j_istore 3 cx [(4, .int 0), (3, .int 1), (0, .ref o), (1, .int (nI k)), (2, .int (nI p))] dX6_isBook_3 (by decide) rfl ?_
  have L5 : ∀ d : Nat, ∀ (j : Nat) (zl : Int32), (j + d = zf k) → JJ G K 0 0 (wMO o am ik zl tn tk be an va bd ++ ([((am 0), .inl (gI G, 51, .inl (mm (daysF σ j))))] ++ ([((am 2), .inl (gI G, 51, .inl (mm ω)))] ++ ([((am 6), .inl (gI G, 4, .inl (zN zf)))] ++ [((am 7), .inl (gJ G, 160, .inr (.inl (cm C))))])))) [(4, .int (nI j)), (3, .int (bI (isBk (C k) p σ j))), (2, .int (nI p)), (1, .int (nI k)), (0, .ref o)] 5 [] := by
    intro d
    induction d with
    | zero =>
      intro j zl hj
      refine j_iload 5 cx 0 dX6_isBook_5 rfl ?_
      refine j_aload_n 7 cx 4 dX6_isBook_7 rfl ?_
      refine j_get 8 cx 0 14 (T := TX6) (v := .ref ((am 6))) (fun _ h => List.mem_cons_of_mem _ (List.mem_append_right _ (h))) (List.mem_of_getElem? (i := 1) rfl) (ci := 5) rfl (by decide) rfl rfl rfl dX6_isBook_8 ?_
      refine j_iload_n 11 cx 3 dX6_isBook_11 rfl ?_
      refine j_iald 12 cx 3 k rfl rfl (by omega) (by decide) dX6_isBook_12 ?_
      refine j_top (nI (zf k)) rfl ?_
      refine j_icmp_ge_T 13 cx 59 dX6_isBook_13 (by decide) (nI_le (by omega) (by omega)) ?_
      refine j_aload_n 59 cx 4 dX6_isBook_59 rfl ?_
      refine j_callV_v 60 cx 0 [0, 1, 2] [] (fun _ => wMO o am ik zl tn tk be an va bd ++ ([((am 0), .inl (gI G, 51, .inl (mm ω)))] ++ ([((am 2), .inl (gI G, 51, .inl (mm ω)))] ++ ([((am 6), .inl (gI G, 4, .inl (zN zf)))] ++ [((am 7), .inl (gJ G, 160, .inr (.inl (cm C))))])))) (c_X6_putsBack (kl K) G o am ik zl tn tk be an va bd (daysF σ j) ω) gX6_isBook_X6_putsBack rfl rfl rfl ⟨rfl, by decide, by decide, rfl⟩ ⟨Nat.le_of_ble_eq_true rfl, Nat.le_of_ble_eq_true rfl⟩ ⟨Nat.zero_le _, Nat.zero_le _⟩ rfl (by decide) (ci := 5) 0 rfl rfl rfl rfl rfl (Nat.le_of_ble_eq_true rfl) dX6_isBook_60 (fun _ => rfl) (fun zu1 zk1 => ?_)
      refine j_iload_n 63 cx 1 dX6_isBook_63 rfl ?_
      exact fin zl _ _ _ _ dX6_isBook_64 (bI_nar _) (by rw [show j = zf k from by omega]) rfl trivial
    | succ d ih5 =>
      intro j zl hj
      refine j_iload 5 cx 0 dX6_isBook_5 rfl ?_
      refine j_aload_n 7 cx 4 dX6_isBook_7 rfl ?_
      refine j_get 8 cx 0 14 (T := TX6) (v := .ref ((am 6))) (fun _ h => List.mem_cons_of_mem _ (List.mem_append_right _ (h))) (List.mem_of_getElem? (i := 1) rfl) (ci := 5) rfl (by decide) rfl rfl rfl dX6_isBook_8 ?_
      refine j_iload_n 11 cx 3 dX6_isBook_11 rfl ?_
      refine j_iald 12 cx 3 k rfl rfl (by omega) (by decide) dX6_isBook_12 ?_
      refine j_top (nI (zf k)) rfl ?_
      refine j_icmp_ge_F 13 cx 59 dX6_isBook_13 (by decide) (nI_ge (by omega) (by omega)) ?_
      refine j_iload_n 16 cx 1 dX6_isBook_16 rfl ?_
      refine j_ifB_eq 17 cx 59 dX6_isBook_17 (by decide) (fun zc1 => ?_) (fun zc1 => ?_)
      · skip
        refine j_aload_n 59 cx 4 dX6_isBook_59 rfl ?_
        refine j_callV_v 60 cx 0 [0, 1, 2] [] (fun _ => wMO o am ik zl tn tk be an va bd ++ ([((am 0), .inl (gI G, 51, .inl (mm ω)))] ++ ([((am 2), .inl (gI G, 51, .inl (mm ω)))] ++ ([((am 6), .inl (gI G, 4, .inl (zN zf)))] ++ [((am 7), .inl (gJ G, 160, .inr (.inl (cm C))))])))) (c_X6_putsBack (kl K) G o am ik zl tn tk be an va bd (daysF σ j) ω) gX6_isBook_X6_putsBack rfl rfl rfl ⟨rfl, by decide, by decide, rfl⟩ ⟨Nat.le_of_ble_eq_true rfl, Nat.le_of_ble_eq_true rfl⟩ ⟨Nat.zero_le _, Nat.zero_le _⟩ rfl (by decide) (ci := 5) 0 rfl rfl rfl rfl rfl (Nat.le_of_ble_eq_true rfl) dX6_isBook_60 (fun _ => rfl) (fun zu2 zk2 => ?_)
        refine j_iload_n 63 cx 1 dX6_isBook_63 rfl ?_
        exact fin zl _ _ _ _ dX6_isBook_64 (bI_nar _) (by rw [zc1, isBk_m zc1 (zf k) (by omega)]) rfl trivial
      · skip
        refine j_aload_n 20 cx 4 dX6_isBook_20 rfl ?_
        refine j_get 21 cx 0 15 (T := TX6) (v := .ref ((am 7))) (fun _ h => List.mem_cons_of_mem _ (List.mem_append_right _ (h))) (List.mem_of_getElem? (i := 2) rfl) (ci := 5) rfl (by decide) rfl rfl rfl dX6_isBook_21 ?_
        refine j_bipush 24 cx 40 dX6_isBook_24 (by decide) ?_
        refine j_iload_n 26 cx 3 dX6_isBook_26 rfl ?_
        refine j_imul 27 cx dX6_isBook_27 ?_
        refine j_top (nI (40 * k)) (pk_mul 40 k) ?_
        refine j_iload 28 cx 0 dX6_isBook_28 rfl ?_
        refine j_iadd 30 cx dX6_isBook_30 ?_
        refine j_top (nI (40 * k + j)) (nI_add (40 * k) j) ?_
        refine j_lald 31 cx 4 (40 * k + j) rfl rfl (by omega) (by decide) dX6_isBook_31 ?_
        refine j_topl (C k j) (cm_at _ k (by omega)) ?_
        refine j_aload_n 32 cx 4 dX6_isBook_32 rfl ?_
        refine j_iload_n 33 cx 2 dX6_isBook_33 rfl ?_
        refine j_iconst 34 cx 2 dX6_isBook_34 (by decide) ?_
        refine j_callV_i 35 cx 2 [0, 1] [.int (nI p), .int 2] (fun _ => wMO o am ik zl tn tk be an va bd ++ ([((am 0), .inl (gI G, 51, .inl (mm (daysF σ j))))] ++ ([((am 2), .inl (gI G, 51, .inl (mm ω)))] ++ ([((am 6), .inl (gI G, 4, .inl (zN zf)))] ++ [((am 7), .inl (gJ G, 160, .inr (.inl (cm C))))])))) (c_X6_it (kl K) G o am ik zl tn tk be an va bd (daysF σ j) p 2 (by omega) (by omega) ) gX6_isBook_X6_it rfl rfl rfl ⟨rfl, by decide, by decide, rfl⟩ ⟨Nat.le_of_ble_eq_true rfl, Nat.le_of_ble_eq_true rfl⟩ ⟨Nat.zero_le _, Nat.zero_le _⟩ rfl (by decide) (ci := 5) 0 rfl rfl rfl rfl rfl (Nat.le_of_ble_eq_true rfl) dX6_isBook_35 (fun _ => rfl) (fun zu3 zk3 => ?_)
        refine j_top ((daysF σ j) 4 p) rfl ?_
        refine j_i2l 38 cx dX6_isBook_38 ?_
        refine j_lcmp 39 cx dX6_isBook_39 ?_
        refine j_if_ne 40 cx 47 dX6_isBook_40 (by decide) (fun zc2 => ?_) (fun zc2 => ?_)
        · skip
          refine j_iconst 47 cx 0 dX6_isBook_47 (by decide) ?_
          refine j_istore_n 48 cx [(3, .int 0), (4, .int (nI j)), (2, .int (nI p)), (1, .int (nI k)), (0, .ref o)] dX6_isBook_48 (by decide) rfl ?_
          refine j_aload_n 49 cx 4 dX6_isBook_49 rfl ?_
          refine j_callV_v 50 cx 0 [0, 1] [] (fun _ => wMO o am ik (oI (loud (daysF σ j))) tn tk be an va bd ++ ([((am 0), .inl (gI G, 51, .inl (mm (dayF (daysF σ j)))))] ++ ([((am 2), .inl (gI G, 51, .inl (mm ω)))] ++ ([((am 6), .inl (gI G, 4, .inl (zN zf)))] ++ [((am 7), .inl (gJ G, 160, .inr (.inl (cm C))))])))) (c_X6_goes (kl K) G o am ik zl tn tk be an va bd (daysF σ j) (inv_daysF hI j (by omega)).1) gX6_isBook_X6_goes rfl rfl rfl ⟨rfl, by decide, by decide, rfl⟩ ⟨Nat.le_of_ble_eq_true rfl, Nat.le_of_ble_eq_true rfl⟩ ⟨Nat.zero_le _, Nat.zero_le _⟩ rfl (by decide) (ci := 5) 0 rfl rfl rfl rfl rfl (Nat.le_of_ble_eq_true rfl) dX6_isBook_50 (fun _ => rfl) (fun zu4 zk4 => ?_)
          refine j_iinc 53 cx [(4, .int (nI (j + 1))), (3, .int 0), (2, .int (nI p)), (1, .int (nI k)), (0, .ref o)] 1 (nI (j + 1)) dX6_isBook_53 rfl (iinc1 j) (by decide) rfl ?_
          refine j_goto 56 cx 5 dX6_isBook_56 (by decide) ?_
          have h9 := ih5 (j + 1) (oI (loud (daysF σ j))) (by omega)
          rw [show isBk (C k) p σ (j + 1) = false from (ib_f (fun q => zc2 ((lg_cmp_eq _ _).mpr q)))] at h9
          exact h9
        · skip
          refine j_iconst 43 cx 1 dX6_isBook_43 (by decide) ?_
          refine j_goto 44 cx 48 dX6_isBook_44 (by decide) ?_
          refine j_istore_n 48 cx [(3, .int 1), (4, .int (nI j)), (2, .int (nI p)), (1, .int (nI k)), (0, .ref o)] dX6_isBook_48 (by decide) rfl ?_
          refine j_aload_n 49 cx 4 dX6_isBook_49 rfl ?_
          refine j_callV_v 50 cx 0 [0, 1] [] (fun _ => wMO o am ik (oI (loud (daysF σ j))) tn tk be an va bd ++ ([((am 0), .inl (gI G, 51, .inl (mm (dayF (daysF σ j)))))] ++ ([((am 2), .inl (gI G, 51, .inl (mm ω)))] ++ ([((am 6), .inl (gI G, 4, .inl (zN zf)))] ++ [((am 7), .inl (gJ G, 160, .inr (.inl (cm C))))])))) (c_X6_goes (kl K) G o am ik zl tn tk be an va bd (daysF σ j) (inv_daysF hI j (by omega)).1) gX6_isBook_X6_goes rfl rfl rfl ⟨rfl, by decide, by decide, rfl⟩ ⟨Nat.le_of_ble_eq_true rfl, Nat.le_of_ble_eq_true rfl⟩ ⟨Nat.zero_le _, Nat.zero_le _⟩ rfl (by decide) (ci := 5) 0 rfl rfl rfl rfl rfl (Nat.le_of_ble_eq_true rfl) dX6_isBook_50 (fun _ => rfl) (fun zu5 zk5 => ?_)
          refine j_iinc 53 cx [(4, .int (nI (j + 1))), (3, .int 1), (2, .int (nI p)), (1, .int (nI k)), (0, .ref o)] 1 (nI (j + 1)) dX6_isBook_53 rfl (iinc1 j) (by decide) rfl ?_
          refine j_goto 56 cx 5 dX6_isBook_56 (by decide) ?_
          have h9 := ih5 (j + 1) (oI (loud (daysF σ j))) (by omega)
          rw [show isBk (C k) p σ (j + 1) = true from (isBk_s zc1 ((lg_cmp_eq _ _).mp zc2))] at h9
          exact h9
  refine j_lv [0, 1, 4, 3, 2] rfl ?_
  exact L5 (zf k) 0 la (by omega)
set_option maxRecDepth 100000 in
set_option maxHeartbeats 4000000 in
theorem c_X6_read_t (l : Launch) (G : pG) (o : Nat) (am : Nat → Nat) (S : St) (la tk be an va : Int32) (bd : Bool) (ω : Nu) (hI : Inv (sN S)) (hD : dyN (sN S) ≤ 9999) (k : Nat) (hk : k < 4) (hz : sZ S k ≤ 40) (p : Int32) : KI l G yX6_read wsX6_read ({ frames := 8, cells := 0, slots := 0, locals := 181 } : Room) [.ref o, .int (nI k), .int p] (wMO o am (sP S) la (nI (sL S)) tk be an va bd ++ ([((am 0), .inl (gI G, 51, .inl (mm (sN S))))] ++ ([((am 3), .inl (gI G, 7, .inl (sF S)))] ++ ([((am 2), .inl (gI G, 51, .inl (mm ω)))] ++ ([((am 5), .inl (gI G, 4, .inl (sB S)))] ++ ([((am 6), .inl (gI G, 4, .inl (zN (sZ S))))] ++ [((am 7), .inl (gJ G, 160, .inr (.inl (cm (sC S)))))])))))) (S := (Int32 × Nu)) (fun _ => True) (fun u => (sp_read (nI k) p S).1) (fun u => wMO o am (sP S) (u.1) (nI (sL S)) tk be an va bd ++ ([((am 0), .inl (gI G, 51, .inl (mm (sN (sp_read (nI k) p S).2))))] ++ ([((am 3), .inl (gI G, 7, .inl (sF (sp_read (nI k) p S).2)))] ++ ([((am 2), .inl (gI G, 51, .inl (mm u.2)))] ++ ([((am 5), .inl (gI G, 4, .inl (sB (sp_read (nI k) p S).2)))] ++ ([((am 6), .inl (gI G, 4, .inl (zN (sZ (sp_read (nI k) p S).2))))] ++ [((am 7), .inl (gJ G, 160, .inr (.inl (cm (sC (sp_read (nI k) p S).2)))))])))))) := by
  refine ki_of [(0, .ref o), (1, .int (nI k)), (2, .int p)] (own := RX6) (cc := cX6_read) (nL := 6) (by decide +kernel) rfl rfl (Nat.le_of_ble_eq_true rfl) rfl (fun _ => rfl) (fun K cx fin => ?_)
  refine j_aload_n 0 cx 0 dX6_read_0 rfl ?_
  refine j_iload_n 1 cx 1 dX6_read_1 rfl ?_
  rcases bcase (decide (sB S k = 0)) with zc1 | zc1
  · skip
    refine j_callV_i 2 cx 1 [0, 4] [.int (nI k)] (fun _ => wMO o am (sP S) la (nI (sL S)) tk be an va bd ++ ([((am 0), .inl (gI G, 51, .inl (mm (sN S))))] ++ ([((am 3), .inl (gI G, 7, .inl (sF S)))] ++ ([((am 2), .inl (gI G, 51, .inl (mm ω)))] ++ ([((am 5), .inl (gI G, 4, .inl (sB S)))] ++ ([((am 6), .inl (gI G, 4, .inl (zN (sZ S))))] ++ [((am 7), .inl (gJ G, 160, .inr (.inl (cm (sC S)))))])))))) (c_X6_notThere (kl K) G o am (sP S) la (nI (sL S)) tk be an va bd (sB S) (nI k)) gX6_read_X6_notThere rfl rfl rfl ⟨rfl, by decide, by decide, rfl⟩ ⟨Nat.le_of_ble_eq_true rfl, Nat.le_of_ble_eq_true rfl⟩ ⟨Nat.zero_le _, Nat.zero_le _⟩ rfl (by decide) (ci := 5) 0 rfl rfl rfl rfl rfl (Nat.le_of_ble_eq_true rfl) dX6_read_2 (fun _ => rfl) (fun zu1 zk1 => ?_)
    refine j_top (thF (sB S) (nI k)) rfl ?_
    refine j_top ((-1000000006)) (thF_0 hk zc1) ?_
    refine j_istore_n 5 cx [(3, .int ((-1000000006))), (0, .ref o), (1, .int (nI k)), (2, .int p)] dX6_read_5 (by decide) rfl ?_
    refine j_iload_n 6 cx 0 dX6_read_6 rfl ?_
    refine j_if_ne_T 7 cx 23 dX6_read_7 (by decide) (by decide) ?_
    refine j_iload_n 23 cx 0 dX6_read_23 rfl ?_
    refine j_istore_n 24 cx [(3, .int ((-1000000006))), (0, .ref o), (1, .int (nI k)), (2, .int p)] dX6_read_24 (by decide) rfl ?_
    refine j_iload_n 25 cx 0 dX6_read_25 rfl ?_
    refine j_if_eq_F 26 cx 35 dX6_read_26 (by decide) (by decide) ?_
    refine j_aload_n 29 cx 1 dX6_read_29 rfl ?_
    refine j_iload_n 30 cx 0 dX6_read_30 rfl ?_
    refine j_callV_i 31 cx 1 [0, 2] [.int (fcode 5)] (fun _ => wMO o am (sP S) la (nI (sL S)) tk be an va bd ++ ([((am 0), .inl (gI G, 51, .inl (mm (sN S))))] ++ ([((am 3), .inl (gI G, 7, .inl (upd (sF S) 5 ((sF S) 5 + 1))))] ++ ([((am 2), .inl (gI G, 51, .inl (mm ω)))] ++ ([((am 5), .inl (gI G, 4, .inl (sB S)))] ++ ([((am 6), .inl (gI G, 4, .inl (zN (sZ S))))] ++ [((am 7), .inl (gJ G, 160, .inr (.inl (cm (sC S)))))])))))) (c_X6_finds (kl K) G o am (sP S) la (nI (sL S)) tk be an va bd (sF S) 5 (by decide)) gX6_read_X6_finds rfl rfl rfl ⟨rfl, by decide, by decide, rfl⟩ ⟨Nat.le_of_ble_eq_true rfl, Nat.le_of_ble_eq_true rfl⟩ ⟨Nat.zero_le _, Nat.zero_le _⟩ rfl (by decide) (ci := 5) 0 rfl rfl rfl rfl rfl (Nat.le_of_ble_eq_true rfl) dX6_read_31 (fun _ => rfl) (fun zu2 zk2 => ?_)
    refine j_top (fcode 5) rfl ?_
    have ze : (sp_read (nI k) p S) = bad S 5 := by unfold sp_read; simp [s_in hk, show pN (nI k) = k from nI_clamp (by omega), isP_eq hI, of_decide_eq_true zc1]
    exact fin (la, ω) _ _ _ _ dX6_read_34 rfl (by rw [ze] <;> rfl) (by rw [ze] <;> rfl) trivial
  · skip
    refine j_callV_i 2 cx 1 [0, 4] [.int (nI k)] (fun _ => wMO o am (sP S) la (nI (sL S)) tk be an va bd ++ ([((am 0), .inl (gI G, 51, .inl (mm (sN S))))] ++ ([((am 3), .inl (gI G, 7, .inl (sF S)))] ++ ([((am 2), .inl (gI G, 51, .inl (mm ω)))] ++ ([((am 5), .inl (gI G, 4, .inl (sB S)))] ++ ([((am 6), .inl (gI G, 4, .inl (zN (sZ S))))] ++ [((am 7), .inl (gJ G, 160, .inr (.inl (cm (sC S)))))])))))) (c_X6_notThere (kl K) G o am (sP S) la (nI (sL S)) tk be an va bd (sB S) (nI k)) gX6_read_X6_notThere rfl rfl rfl ⟨rfl, by decide, by decide, rfl⟩ ⟨Nat.le_of_ble_eq_true rfl, Nat.le_of_ble_eq_true rfl⟩ ⟨Nat.zero_le _, Nat.zero_le _⟩ rfl (by decide) (ci := 5) 0 rfl rfl rfl rfl rfl (Nat.le_of_ble_eq_true rfl) dX6_read_2 (fun _ => rfl) (fun zu3 zk3 => ?_)
    refine j_top (thF (sB S) (nI k)) rfl ?_
    refine j_top (0) (thF_1 hk zc1) ?_
    refine j_istore_n 5 cx [(3, .int 0), (0, .ref o), (1, .int (nI k)), (2, .int p)] dX6_read_5 (by decide) rfl ?_
    refine j_iload_n 6 cx 0 dX6_read_6 rfl ?_
    refine j_if_ne_F 7 cx 23 dX6_read_7 (by decide) (by decide) ?_
    refine j_aload_n 10 cx 1 dX6_read_10 rfl ?_
    refine j_iload_n 11 cx 3 dX6_read_11 rfl ?_
    refine j_callV_i 12 cx 1 [0, 1] [.int p] (fun _ => wMO o am (sP S) la (nI (sL S)) tk be an va bd ++ ([((am 0), .inl (gI G, 51, .inl (mm (sN S))))] ++ ([((am 3), .inl (gI G, 7, .inl (sF S)))] ++ ([((am 2), .inl (gI G, 51, .inl (mm ω)))] ++ ([((am 5), .inl (gI G, 4, .inl (sB S)))] ++ ([((am 6), .inl (gI G, 4, .inl (zN (sZ S))))] ++ [((am 7), .inl (gJ G, 160, .inr (.inl (cm (sC S)))))])))))) (c_X6_isPart (kl K) G o am (sP S) la (nI (sL S)) tk be an va bd (sN S) p hI ) gX6_read_X6_isPart rfl rfl rfl ⟨rfl, by decide, by decide, rfl⟩ ⟨Nat.le_of_ble_eq_true rfl, Nat.le_of_ble_eq_true rfl⟩ ⟨Nat.zero_le _, Nat.zero_le _⟩ rfl (by decide) (ci := 5) 0 rfl rfl rfl rfl rfl (Nat.le_of_ble_eq_true rfl) dX6_read_12 (fun _ => rfl) (fun zu4 zk4 => ?_)
    refine j_top (bI (inI p 0 (nI (szN (sN S)) - 1))) rfl ?_
    refine j_ifB_ne 15 cx 23 dX6_read_15 (by decide) (fun zc2 => ?_) (fun zc2 => ?_)
    · skip
      obtain ⟨q, hq, rfl⟩ := in_n (by have := hI.sz8; omega) zc2
      have h8 := hI.sz8
      have hqc : (nI q).toNatClampNeg = q := nI_clamp (by omega)
      refine j_iload_n 23 cx 0 dX6_read_23 rfl ?_
      refine j_istore_n 24 cx [(3, .int 0), (0, .ref o), (1, .int (nI k)), (2, .int (nI q))] dX6_read_24 (by decide) rfl ?_
      refine j_iload_n 25 cx 0 dX6_read_25 rfl ?_
      refine j_if_eq_T 26 cx 35 dX6_read_26 (by decide) (by decide) ?_
      refine j_aload_n 35 cx 1 dX6_read_35 rfl ?_
      refine j_callV_v 36 cx 0 [0, 1, 3] [] (fun _ => wMO o am (sP S) la (nI (sL S)) tk be an va bd ++ ([((am 0), .inl (gI G, 51, .inl (mm (sN S))))] ++ ([((am 3), .inl (gI G, 7, .inl (sF S)))] ++ ([((am 2), .inl (gI G, 51, .inl (mm (sN S))))] ++ ([((am 5), .inl (gI G, 4, .inl (sB S)))] ++ ([((am 6), .inl (gI G, 4, .inl (zN (sZ S))))] ++ [((am 7), .inl (gJ G, 160, .inr (.inl (cm (sC S)))))])))))) (c_X6_thinks (kl K) G o am (sP S) la (nI (sL S)) tk be an va bd (sN S) ω) gX6_read_X6_thinks rfl rfl rfl ⟨rfl, by decide, by decide, rfl⟩ ⟨Nat.le_of_ble_eq_true rfl, Nat.le_of_ble_eq_true rfl⟩ ⟨Nat.zero_le _, Nat.zero_le _⟩ rfl (by decide) (ci := 5) 0 rfl rfl rfl rfl rfl (Nat.le_of_ble_eq_true rfl) dX6_read_36 (fun _ => rfl) (fun zu5 zk5 => ?_)
      refine j_iconst 39 cx 0 dX6_read_39 (by decide) ?_
      refine j_istore 40 cx [(4, .int 0), (3, .int 0), (0, .ref o), (1, .int (nI k)), (2, .int (nI q))] dX6_read_40 (by decide) rfl ?_
      refine j_iconst 42 cx 0 dX6_read_42 (by decide) ?_
      refine j_istore 43 cx [(5, .int 0), (4, .int 0), (3, .int 0), (0, .ref o), (1, .int (nI k)), (2, .int (nI q))] dX6_read_43 (by decide) rfl ?_
      have L45 : ∀ d : Nat, ∀ (j : Nat) (zl : Int32), (j + d = 600) → JJ G K 0 0 (wMO o am (sP S) zl (nI (sL S)) tk be an va bd ++ ([((am 0), .inl (gI G, 51, .inl (mm (sN S))))] ++ ([((am 3), .inl (gI G, 7, .inl (sF S)))] ++ ([((am 2), .inl (gI G, 51, .inl (mm (sN S))))] ++ ([((am 5), .inl (gI G, 4, .inl (sB S)))] ++ ([((am 6), .inl (gI G, 4, .inl (zN (sZ S))))] ++ [((am 7), .inl (gJ G, 160, .inr (.inl (cm (sC S)))))])))))) [(5, .int (nI j)), (4, .int (nI (readN (sC S k) q (sZ S k) (sN S) j))), (2, .int (nI q)), (1, .int (nI k)), (0, .ref o)] 45 [] := by
        intro d
        induction d with
        | zero =>
          intro j zl hj
          refine j_iload 45 cx 0 dX6_read_45 rfl ?_
          refine j_sipush 47 cx 600 dX6_read_47 (by decide) ?_
          refine j_icmp_ge_T 50 cx 100 dX6_read_50 (by decide) (nI_le (a := 600) (by omega) (by omega)) ?_
          refine j_iload 100 cx 1 dX6_read_100 rfl ?_
          have ze : (sp_read (nI k) (nI q) S) = (nI (readN (sC S k) q (sZ S k) (sN S) j), S) := by unfold sp_read; rw [if_pos (s_in hk), show pN (nI k) = k from nI_clamp (by omega), if_neg (of_decide_eq_false zc1), isP_eq hI, if_pos zc2, show pN (nI q) = q from hqc, show 600 = j from by omega]
          exact fin (zl, (sN S)) _ _ _ _ dX6_read_102 rfl (by rw [ze] <;> rfl) (by rw [ze] <;> rfl) trivial
        | succ d ih45 =>
          intro j zl hj
          refine j_iload 45 cx 0 dX6_read_45 rfl ?_
          refine j_sipush 47 cx 600 dX6_read_47 (by decide) ?_
          refine j_icmp_ge_F 50 cx 100 dX6_read_50 (by decide) (nI_ge (b := 600) (by omega) (by omega)) ?_
          refine j_aload_n 53 cx 4 dX6_read_53 rfl ?_
          refine j_iload_n 54 cx 2 dX6_read_54 rfl ?_
          refine j_iconst 55 cx 0 dX6_read_55 (by decide) ?_
          refine j_iload 56 cx 0 dX6_read_56 rfl ?_
          refine j_bipush 58 cx 100 dX6_read_58 (by decide) ?_
          refine j_idiv 60 cx dX6_read_60 (by decide) ?_
          refine j_top (nI (j / 100)) (pk_div (a := j) (d := 100) (by omega) (by decide) (by decide)) ?_
          refine j_callV_v 61 cx 3 [0, 1] [.int (nI q), .int 0, .int (nI (j / 100))] (fun _ => wMO o am (sP S) zl (nI (sL S)) tk be an va bd ++ ([((am 0), .inl (gI G, 51, .inl (mm (up2 (sN S) 2 q (nI (j / 100))))))] ++ ([((am 3), .inl (gI G, 7, .inl (sF S)))] ++ ([((am 2), .inl (gI G, 51, .inl (mm (sN S))))] ++ ([((am 5), .inl (gI G, 4, .inl (sB S)))] ++ ([((am 6), .inl (gI G, 4, .inl (zN (sZ S))))] ++ [((am 7), .inl (gJ G, 160, .inr (.inl (cm (sC S)))))])))))) (c_X6_put (kl K) G o am (sP S) zl (nI (sL S)) tk be an va bd (sN S) q 0 (nI (j / 100)) (by omega) (by omega)) gX6_read_X6_put rfl rfl rfl ⟨rfl, by decide, by decide, rfl⟩ ⟨Nat.le_of_ble_eq_true rfl, Nat.le_of_ble_eq_true rfl⟩ ⟨Nat.zero_le _, Nat.zero_le _⟩ rfl (by decide) (ci := 5) 0 rfl rfl rfl rfl rfl (Nat.le_of_ble_eq_true rfl) dX6_read_61 (fun _ => rfl) (fun zu6 zk6 => ?_)
          refine j_aload_n 64 cx 4 dX6_read_64 rfl ?_
          refine j_get 65 cx 0 0 (T := TX6) (v := .ref ((am 0))) (fun _ h => List.mem_cons_of_mem _ (List.mem_append_right _ (h))) (List.mem_of_getElem? (i := 2) rfl) (ci := 5) rfl (by decide) rfl rfl rfl dX6_read_65 ?_
          refine j_iconst 68 cx 1 dX6_read_68 (by decide) ?_
          refine j_iload 69 cx 0 dX6_read_69 rfl ?_
          refine j_bipush 71 cx 100 dX6_read_71 (by decide) ?_
          refine j_irem 73 cx dX6_read_73 (by decide) ?_
          refine j_top (nI (j % 100)) (pk_rem (a := j) (d := 100) (by omega) (by decide) (by decide)) ?_
          refine j_iast 74 cx 1 1 (wMO o am (sP S) zl (nI (sL S)) tk be an va bd ++ ([((am 0), .inl (gI G, 51, .inl (upd (mm (up2 (sN S) 2 q (nI (j / 100)))) 1 (nI (j % 100)))))] ++ ([((am 3), .inl (gI G, 7, .inl (sF S)))] ++ ([((am 2), .inl (gI G, 51, .inl (mm (sN S))))] ++ ([((am 5), .inl (gI G, 4, .inl (sB S)))] ++ ([((am 6), .inl (gI G, 4, .inl (zN (sZ S))))] ++ [((am 7), .inl (gJ G, 160, .inr (.inl (cm (sC S)))))])))))) rfl rfl (by omega) (by decide) rfl dX6_read_74 ?_
          refine j_ws (wMO o am (sP S) zl (nI (sL S)) tk be an va bd ++ ([((am 0), .inl (gI G, 51, .inl (mm (up2 (up2 (sN S) 2 q (nI (j / 100))) 0 1 (nI (j % 100))))))] ++ ([((am 3), .inl (gI G, 7, .inl (sF S)))] ++ ([((am 2), .inl (gI G, 51, .inl (mm (sN S))))] ++ ([((am 5), .inl (gI G, 4, .inl (sB S)))] ++ ([((am 6), .inl (gI G, 4, .inl (zN (sZ S))))] ++ [((am 7), .inl (gJ G, 160, .inr (.inl (cm (sC S)))))])))))) (congrArg (fun zf : Nat → Int32 => wMO o am (sP S) zl (nI (sL S)) tk be an va bd ++ ([((am 0), .inl (gI G, 51, .inl zf))] ++ ([((am 3), .inl (gI G, 7, .inl (sF S)))] ++ ([((am 2), .inl (gI G, 51, .inl (mm (sN S))))] ++ ([((am 5), .inl (gI G, 4, .inl (sB S)))] ++ ([((am 6), .inl (gI G, 4, .inl (zN (sZ S))))] ++ [((am 7), .inl (gJ G, 160, .inr (.inl (cm (sC S)))))])))))) (mm_usc _ _ (by omega))) ?_
          refine j_iload 75 cx 1 dX6_read_75 rfl ?_
          refine j_aload_n 77 cx 4 dX6_read_77 rfl ?_
          refine j_iload_n 78 cx 3 dX6_read_78 rfl ?_
          refine j_iload_n 79 cx 2 dX6_read_79 rfl ?_
          refine j_callV_i 80 cx 2 [0, 1, 3, 5, 6] [.int (nI k), .int (nI q)] (fun zl1 => wMO o am (sP S) zl1 (nI (sL S)) tk be an va bd ++ ([((am 0), .inl (gI G, 51, .inl (mm (sN S))))] ++ ([((am 3), .inl (gI G, 7, .inl (sF S)))] ++ ([((am 2), .inl (gI G, 51, .inl (mm (sN S))))] ++ ([((am 5), .inl (gI G, 4, .inl (sB S)))] ++ ([((am 6), .inl (gI G, 4, .inl (zN (sZ S))))] ++ [((am 7), .inl (gJ G, 160, .inr (.inl (cm (sC S)))))])))))) (c_X6_isBook (kl K) G o am (sP S) zl (nI (sL S)) tk be an va bd (up2 (up2 (sN S) 2 q (nI (j / 100))) 0 1 (nI (j % 100))) (sN S) (sZ S) (sC S) (inv_upw (inv_upx hI 2 q (nI (j / 100)) (by omega)) (nI_99 (by omega))) k q (by omega) (by omega) hz (by have h9 : dyN (up2 (up2 (sN S) 2 q (nI (j / 100))) 0 1 (nI (j % 100))) ≤ 9999 := hD; omega)) gX6_read_X6_isBook rfl rfl rfl ⟨rfl, by decide, by decide, rfl⟩ ⟨Nat.le_of_ble_eq_true rfl, Nat.le_of_ble_eq_true rfl⟩ ⟨Nat.zero_le _, Nat.zero_le _⟩ rfl (by decide) (ci := 5) 0 rfl rfl rfl rfl rfl (Nat.le_of_ble_eq_true rfl) dX6_read_80 (fun _ => rfl) (fun zl1 zk7 => ?_)
          refine j_top (bI (isBk ((sC S) k) q (up2 (up2 (sN S) 2 q (nI (j / 100))) 0 1 (nI (j % 100))) ((sZ S) k))) rfl ?_
          refine j_ifB_eq 83 cx 90 dX6_read_83 (by decide) (fun zc3 => ?_) (fun zc3 => ?_)
          · skip
            refine j_iconst 90 cx 0 dX6_read_90 (by decide) ?_
            refine j_iadd 91 cx dX6_read_91 ?_
            refine j_top (nI (readN (sC S k) q (sZ S k) (sN S) j + 0)) (nI_add (readN (sC S k) q (sZ S k) (sN S) j) 0) ?_
            refine j_istore 92 cx [(4, .int (nI (readN (sC S k) q (sZ S k) (sN S) j + 0))), (5, .int (nI j)), (2, .int (nI q)), (1, .int (nI k)), (0, .ref o)] dX6_read_92 (by decide) rfl ?_
            refine j_iinc 94 cx [(5, .int (nI (j + 1))), (4, .int (nI (readN (sC S k) q (sZ S k) (sN S) j + 0))), (2, .int (nI q)), (1, .int (nI k)), (0, .ref o)] 1 (nI (j + 1)) dX6_read_94 rfl (iinc1 j) (by decide) rfl ?_
            refine j_goto 97 cx 45 dX6_read_97 (by decide) ?_
            have h9 := ih45 (j + 1) zl1 (by omega)
            rw [show readN (sC S k) q (sZ S k) (sN S) (j + 1) = readN (sC S k) q (sZ S k) (sN S) j + 0 from by rw [readN, if_neg (by rw [zc3]; decide)]] at h9
            exact h9
          · skip
            refine j_iconst 86 cx 1 dX6_read_86 (by decide) ?_
            refine j_goto 87 cx 91 dX6_read_87 (by decide) ?_
            refine j_iadd 91 cx dX6_read_91 ?_
            refine j_top (nI (readN (sC S k) q (sZ S k) (sN S) j + 1)) (nI_add (readN (sC S k) q (sZ S k) (sN S) j) 1) ?_
            refine j_istore 92 cx [(4, .int (nI (readN (sC S k) q (sZ S k) (sN S) j + 1))), (5, .int (nI j)), (2, .int (nI q)), (1, .int (nI k)), (0, .ref o)] dX6_read_92 (by decide) rfl ?_
            refine j_iinc 94 cx [(5, .int (nI (j + 1))), (4, .int (nI (readN (sC S k) q (sZ S k) (sN S) j + 1))), (2, .int (nI q)), (1, .int (nI k)), (0, .ref o)] 1 (nI (j + 1)) dX6_read_94 rfl (iinc1 j) (by decide) rfl ?_
            refine j_goto 97 cx 45 dX6_read_97 (by decide) ?_
            have h9 := ih45 (j + 1) zl1 (by omega)
            rw [show readN (sC S k) q (sZ S k) (sN S) (j + 1) = readN (sC S k) q (sZ S k) (sN S) j + 1 from by rw [readN, if_pos zc3]] at h9
            exact h9
      refine j_lv [0, 1, 5, 4, 3] rfl ?_
      exact L45 600 0 la (by omega)
    · skip
      refine j_ldc 18 cx (v := -1000000001) (List.mem_of_getElem? (i := 1) rfl) dX6_read_18 ?_
      refine j_goto 20 cx 24 dX6_read_20 (by decide) ?_
      refine j_istore_n 24 cx [(3, .int ((-1000000001))), (0, .ref o), (1, .int (nI k)), (2, .int p)] dX6_read_24 (by decide) rfl ?_
      refine j_iload_n 25 cx 0 dX6_read_25 rfl ?_
      refine j_if_eq_F 26 cx 35 dX6_read_26 (by decide) (by decide) ?_
      refine j_aload_n 29 cx 1 dX6_read_29 rfl ?_
      refine j_iload_n 30 cx 0 dX6_read_30 rfl ?_
      refine j_callV_i 31 cx 1 [0, 2] [.int (fcode 0)] (fun _ => wMO o am (sP S) la (nI (sL S)) tk be an va bd ++ ([((am 0), .inl (gI G, 51, .inl (mm (sN S))))] ++ ([((am 3), .inl (gI G, 7, .inl (upd (sF S) 0 ((sF S) 0 + 1))))] ++ ([((am 2), .inl (gI G, 51, .inl (mm ω)))] ++ ([((am 5), .inl (gI G, 4, .inl (sB S)))] ++ ([((am 6), .inl (gI G, 4, .inl (zN (sZ S))))] ++ [((am 7), .inl (gJ G, 160, .inr (.inl (cm (sC S)))))])))))) (c_X6_finds (kl K) G o am (sP S) la (nI (sL S)) tk be an va bd (sF S) 0 (by decide)) gX6_read_X6_finds rfl rfl rfl ⟨rfl, by decide, by decide, rfl⟩ ⟨Nat.le_of_ble_eq_true rfl, Nat.le_of_ble_eq_true rfl⟩ ⟨Nat.zero_le _, Nat.zero_le _⟩ rfl (by decide) (ci := 5) 0 rfl rfl rfl rfl rfl (Nat.le_of_ble_eq_true rfl) dX6_read_31 (fun _ => rfl) (fun zu8 zk8 => ?_)
      refine j_top (fcode 0) rfl ?_
      have ze : (sp_read (nI k) p S) = bad S 0 := by unfold sp_read; simp [s_in hk, show pN (nI k) = k from nI_clamp (by omega), isP_eq hI, of_decide_eq_false zc1, zc2]
      exact fin (la, ω) _ _ _ _ dX6_read_34 rfl (by rw [ze] <;> rfl) (by rw [ze] <;> rfl) trivial
set_option maxRecDepth 100000 in
set_option maxHeartbeats 4000000 in
theorem c_X6_read_f (l : Launch) (G : pG) (o : Nat) (am : Nat → Nat) (S : St) (la tk be an va : Int32) (bd : Bool) (ω : Nu) (hI : Inv (sN S)) (hD : dyN (sN S) ≤ 9999) (s p : Int32) (hv : inI s 0 3 = false) : KI l G yX6_read wsX6_read ({ frames := 8, cells := 0, slots := 0, locals := 181 } : Room) [.ref o, .int s, .int p] (wMO o am (sP S) la (nI (sL S)) tk be an va bd ++ ([((am 0), .inl (gI G, 51, .inl (mm (sN S))))] ++ ([((am 3), .inl (gI G, 7, .inl (sF S)))] ++ ([((am 2), .inl (gI G, 51, .inl (mm ω)))] ++ ([((am 5), .inl (gI G, 4, .inl (sB S)))] ++ ([((am 6), .inl (gI G, 4, .inl (zN (sZ S))))] ++ [((am 7), .inl (gJ G, 160, .inr (.inl (cm (sC S)))))])))))) (S := (Int32 × Nu)) (fun _ => True) (fun u => (sp_read s p S).1) (fun u => wMO o am (sP S) (u.1) (nI (sL S)) tk be an va bd ++ ([((am 0), .inl (gI G, 51, .inl (mm (sN (sp_read s p S).2))))] ++ ([((am 3), .inl (gI G, 7, .inl (sF (sp_read s p S).2)))] ++ ([((am 2), .inl (gI G, 51, .inl (mm u.2)))] ++ ([((am 5), .inl (gI G, 4, .inl (sB (sp_read s p S).2)))] ++ ([((am 6), .inl (gI G, 4, .inl (zN (sZ (sp_read s p S).2))))] ++ [((am 7), .inl (gJ G, 160, .inr (.inl (cm (sC (sp_read s p S).2)))))])))))) := by
  refine ki_of [(0, .ref o), (1, .int s), (2, .int p)] (own := RX6) (cc := cX6_read) (nL := 6) (by decide +kernel) rfl rfl (Nat.le_of_ble_eq_true rfl) rfl (fun _ => rfl) (fun K cx fin => ?_)
  refine j_aload_n 0 cx 0 dX6_read_0 rfl ?_
  refine j_iload_n 1 cx 1 dX6_read_1 rfl ?_
  refine j_callV_i 2 cx 1 [0, 4] [.int s] (fun _ => wMO o am (sP S) la (nI (sL S)) tk be an va bd ++ ([((am 0), .inl (gI G, 51, .inl (mm (sN S))))] ++ ([((am 3), .inl (gI G, 7, .inl (sF S)))] ++ ([((am 2), .inl (gI G, 51, .inl (mm ω)))] ++ ([((am 5), .inl (gI G, 4, .inl (sB S)))] ++ ([((am 6), .inl (gI G, 4, .inl (zN (sZ S))))] ++ [((am 7), .inl (gJ G, 160, .inr (.inl (cm (sC S)))))])))))) (c_X6_notThere (kl K) G o am (sP S) la (nI (sL S)) tk be an va bd (sB S) s) gX6_read_X6_notThere rfl rfl rfl ⟨rfl, by decide, by decide, rfl⟩ ⟨Nat.le_of_ble_eq_true rfl, Nat.le_of_ble_eq_true rfl⟩ ⟨Nat.zero_le _, Nat.zero_le _⟩ rfl (by decide) (ci := 5) 0 rfl rfl rfl rfl rfl (Nat.le_of_ble_eq_true rfl) dX6_read_2 (fun _ => rfl) (fun zu1 zk1 => ?_)
  refine j_top (thF (sB S) s) rfl ?_
  refine j_top ((-1000000001)) (thF_f hv) ?_
  refine j_istore_n 5 cx [(3, .int ((-1000000001))), (0, .ref o), (1, .int s), (2, .int p)] dX6_read_5 (by decide) rfl ?_
  refine j_iload_n 6 cx 0 dX6_read_6 rfl ?_
  refine j_if_ne_T 7 cx 23 dX6_read_7 (by decide) (by decide) ?_
  refine j_iload_n 23 cx 0 dX6_read_23 rfl ?_
  refine j_istore_n 24 cx [(3, .int ((-1000000001))), (0, .ref o), (1, .int s), (2, .int p)] dX6_read_24 (by decide) rfl ?_
  refine j_iload_n 25 cx 0 dX6_read_25 rfl ?_
  refine j_if_eq_F 26 cx 35 dX6_read_26 (by decide) (by decide) ?_
  refine j_aload_n 29 cx 1 dX6_read_29 rfl ?_
  refine j_iload_n 30 cx 0 dX6_read_30 rfl ?_
  refine j_callV_i 31 cx 1 [0, 2] [.int (fcode 0)] (fun _ => wMO o am (sP S) la (nI (sL S)) tk be an va bd ++ ([((am 0), .inl (gI G, 51, .inl (mm (sN S))))] ++ ([((am 3), .inl (gI G, 7, .inl (upd (sF S) 0 ((sF S) 0 + 1))))] ++ ([((am 2), .inl (gI G, 51, .inl (mm ω)))] ++ ([((am 5), .inl (gI G, 4, .inl (sB S)))] ++ ([((am 6), .inl (gI G, 4, .inl (zN (sZ S))))] ++ [((am 7), .inl (gJ G, 160, .inr (.inl (cm (sC S)))))])))))) (c_X6_finds (kl K) G o am (sP S) la (nI (sL S)) tk be an va bd (sF S) 0 (by decide)) gX6_read_X6_finds rfl rfl rfl ⟨rfl, by decide, by decide, rfl⟩ ⟨Nat.le_of_ble_eq_true rfl, Nat.le_of_ble_eq_true rfl⟩ ⟨Nat.zero_le _, Nat.zero_le _⟩ rfl (by decide) (ci := 5) 0 rfl rfl rfl rfl rfl (Nat.le_of_ble_eq_true rfl) dX6_read_31 (fun _ => rfl) (fun zu2 zk2 => ?_)
  refine j_top (fcode 0) rfl ?_
  have ze : (sp_read s p S) = bad S 0 := by unfold sp_read; rw [if_neg (by rw [hv]; decide)]
  exact fin (la, ω) _ _ _ _ dX6_read_34 rfl (by rw [ze] <;> rfl) (by rw [ze] <;> rfl) trivial
