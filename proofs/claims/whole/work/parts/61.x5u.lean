set_option maxRecDepth 100000 in
set_option maxHeartbeats 4000000 in
theorem c_X5_copy_t (l : Launch) (G : pG) (o : Nat) (ax : Nat → Nat) (sh nh : Nat → Nat) (k : Nat) (hk : k < 4) (k2 : Nat) (hk2 : k2 < 4) (hne : k ≠ k2) (S : St) (hz : sZ S k ≤ 40) (hz2 : sZ S k2 ≤ 40) (a b n : Int32) : KI l G yX5_copy wsX5_copy ({ frames := 2, cells := 0, slots := 0, locals := 43 } : Room) [.ref o, .int (nI k), .int a, .int (nI k2), .int b, .int n] (wXO o ax (sP S) ++ ([((ax 7), .inl (gI G, 7, .inl (sF S)))] ++ ([((ax 6), .inl (gS G, 4, .inr (.inr (.inr (.inr (fun j => some (sh j)))))))] ++ (wSH (sh k) (nh k) (sB S k) (nI (sZ S k)) ++ ([((nh k), .inl (gJ G, 40, .inr (.inl (sC S k))))] ++ (wSH (sh k2) (nh k2) (sB S k2) (nI (sZ S k2)) ++ [((nh k2), .inl (gJ G, 40, .inr (.inl (sC S k2))))])))))) (S := Unit) (fun _ => True) (fun u => (sp_copy (nI k) a (nI k2) b n S).1) (fun u => wXO o ax (sP S) ++ ([((ax 7), .inl (gI G, 7, .inl (sF (sp_copy (nI k) a (nI k2) b n S).2)))] ++ ([((ax 6), .inl (gS G, 4, .inr (.inr (.inr (.inr (fun j => some (sh j)))))))] ++ (wSH (sh k) (nh k) (sB (sp_copy (nI k) a (nI k2) b n S).2 k) (nI (sZ (sp_copy (nI k) a (nI k2) b n S).2 k)) ++ ([((nh k), .inl (gJ G, 40, .inr (.inl (sC (sp_copy (nI k) a (nI k2) b n S).2 k))))] ++ (wSH (sh k2) (nh k2) (sB (sp_copy (nI k) a (nI k2) b n S).2 k2) (nI (sZ (sp_copy (nI k) a (nI k2) b n S).2 k2)) ++ [((nh k2), .inl (gJ G, 40, .inr (.inl (sC (sp_copy (nI k) a (nI k2) b n S).2 k2))))])))))) := by
  refine ki_of [(0, .ref o), (1, .int (nI k)), (2, .int a), (3, .int (nI k2)), (4, .int b), (5, .int n)] (own := RX5) (cc := cX5_copy) (nL := 8) (by decide +kernel) rfl rfl (Nat.le_of_ble_eq_true rfl) rfl (fun _ => rfl) (fun K cx fin => ?_)
  refine j_aload_n 0 cx 0 dX5_copy_0 rfl ?_
  refine j_iload_n 1 cx 1 dX5_copy_1 rfl ?_
  refine j_callV_q 2 cx 1 [0, 2] [.int (nI k)] (fun _ => wXO o ax (sP S) ++ ([((ax 7), .inl (gI G, 7, .inl (sF S)))] ++ ([((ax 6), .inl (gS G, 4, .inr (.inr (.inr (.inr (fun j => some (sh j)))))))] ++ (wSH (sh k) (nh k) (sB S k) (nI (sZ S k)) ++ ([((nh k), .inl (gJ G, 40, .inr (.inl (sC S k))))] ++ (wSH (sh k2) (nh k2) (sB S k2) (nI (sZ S k2)) ++ [((nh k2), .inl (gJ G, 40, .inr (.inl (sC S k2))))])))))) (c_X5_sheetAt_t (kl K) G o ax (sP S) sh k hk) gX5_copy_X5_sheetAt rfl rfl rfl ⟨rfl, by decide, by decide, rfl⟩ ⟨Nat.le_of_ble_eq_true rfl, Nat.le_of_ble_eq_true rfl⟩ ⟨Nat.zero_le _, Nat.zero_le _⟩ rfl (by decide) (ci := 4) 0 rfl rfl rfl rfl rfl (Nat.le_of_ble_eq_true rfl) dX5_copy_2 (fun _ => rfl) (fun zu1 zk1 => ?_)
  refine j_st (st' := [.ref ((sh k))]) rfl ?_
  refine j_astore 5 cx [(6, .ref ((sh k))), (0, .ref o), (1, .int (nI k)), (2, .int a), (3, .int (nI k2)), (4, .int b), (5, .int n)] dX5_copy_5 (by decide) rfl ?_
  refine j_aload_n 7 cx 1 dX5_copy_7 rfl ?_
  refine j_iload_n 8 cx 4 dX5_copy_8 rfl ?_
  refine j_callV_q 9 cx 1 [0, 2] [.int (nI k2)] (fun _ => wXO o ax (sP S) ++ ([((ax 7), .inl (gI G, 7, .inl (sF S)))] ++ ([((ax 6), .inl (gS G, 4, .inr (.inr (.inr (.inr (fun j => some (sh j)))))))] ++ (wSH (sh k) (nh k) (sB S k) (nI (sZ S k)) ++ ([((nh k), .inl (gJ G, 40, .inr (.inl (sC S k))))] ++ (wSH (sh k2) (nh k2) (sB S k2) (nI (sZ S k2)) ++ [((nh k2), .inl (gJ G, 40, .inr (.inl (sC S k2))))])))))) (c_X5_sheetAt_t (kl K) G o ax (sP S) sh k2 hk2) gX5_copy_X5_sheetAt rfl rfl rfl ⟨rfl, by decide, by decide, rfl⟩ ⟨Nat.le_of_ble_eq_true rfl, Nat.le_of_ble_eq_true rfl⟩ ⟨Nat.zero_le _, Nat.zero_le _⟩ rfl (by decide) (ci := 4) 0 rfl rfl rfl rfl rfl (Nat.le_of_ble_eq_true rfl) dX5_copy_9 (fun _ => rfl) (fun zu2 zk2 => ?_)
  refine j_st (st' := [.ref ((sh k2))]) rfl ?_
  refine j_astore 12 cx [(7, .ref ((sh k2))), (6, .ref ((sh k))), (0, .ref o), (1, .int (nI k)), (2, .int a), (3, .int (nI k2)), (4, .int b), (5, .int n)] dX5_copy_12 (by decide) rfl ?_
  refine j_aload 14 cx 1 dX5_copy_14 rfl ?_
  refine j_ifnull 16 cx dX5_copy_16 ?_
  refine j_aload 19 cx 0 dX5_copy_19 rfl ?_
  refine j_ifnonnull 21 cx 31 dX5_copy_21 (by decide) ?_
  refine j_aload 31 cx 1 dX5_copy_31 rfl ?_
  refine j_callV_i 33 cx 0 [3] [] (fun _ => wXO o ax (sP S) ++ ([((ax 7), .inl (gI G, 7, .inl (sF S)))] ++ ([((ax 6), .inl (gS G, 4, .inr (.inr (.inr (.inr (fun j => some (sh j)))))))] ++ (wSH (sh k) (nh k) (sB S k) (nI (sZ S k)) ++ ([((nh k), .inl (gJ G, 40, .inr (.inl (sC S k))))] ++ (wSH (sh k2) (nh k2) (sB S k2) (nI (sZ S k2)) ++ [((nh k2), .inl (gJ G, 40, .inr (.inl (sC S k2))))])))))) (c_X3_isMissing (kl K) G (sh k) (nh k) (sB S k) (nI (sZ S k))) gX5_copy_X3_isMissing rfl rfl rfl ⟨rfl, by decide, by decide, rfl⟩ ⟨Nat.le_of_ble_eq_true rfl, Nat.le_of_ble_eq_true rfl⟩ ⟨Nat.zero_le _, Nat.zero_le _⟩ rfl (by decide) (ci := 2) 0 rfl rfl rfl rfl rfl (Nat.le_of_ble_eq_true rfl) dX5_copy_33 (fun _ => rfl) (fun zu3 zk3 => ?_)
  refine j_top (bI (decide ((sB S k) = 0))) rfl ?_
  refine j_ifB_ne 36 cx 47 dX5_copy_36 (by decide) (fun zc1 => ?_) (fun zc1 => ?_)
  · skip
    refine j_aload_n 47 cx 2 dX5_copy_47 rfl ?_
    refine j_ldc 48 cx (v := -1000000006) (List.mem_of_getElem? (i := 2) rfl) dX5_copy_48 ?_
    refine j_callV_i 50 cx 1 [0, 1] [.int (fcode 5)] (fun _ => wXO o ax (sP S) ++ ([((ax 7), .inl (gI G, 7, .inl (upd (sF S) 5 ((sF S) 5 + 1))))] ++ ([((ax 6), .inl (gS G, 4, .inr (.inr (.inr (.inr (fun j => some (sh j)))))))] ++ (wSH (sh k) (nh k) (sB S k) (nI (sZ S k)) ++ ([((nh k), .inl (gJ G, 40, .inr (.inl (sC S k))))] ++ (wSH (sh k2) (nh k2) (sB S k2) (nI (sZ S k2)) ++ [((nh k2), .inl (gJ G, 40, .inr (.inl (sC S k2))))])))))) (c_X5_finding (kl K) G o ax (sP S) (sF S) 5 (by decide)) gX5_copy_X5_finding rfl rfl rfl ⟨rfl, by decide, by decide, rfl⟩ ⟨Nat.le_of_ble_eq_true rfl, Nat.le_of_ble_eq_true rfl⟩ ⟨Nat.zero_le _, Nat.zero_le _⟩ rfl (by decide) (ci := 4) 0 rfl rfl rfl rfl rfl (Nat.le_of_ble_eq_true rfl) dX5_copy_50 (fun _ => rfl) (fun zu4 zk4 => ?_)
    refine j_top (fcode 5) rfl ?_
    have ze : (sp_copy (nI k) a (nI k2) b n S) = bad S 5 := by unfold sp_copy; simp [s_in hk, s_in hk2, show pN (nI k2) = k2 from nI_clamp (by omega), show pN (nI k) = k from nI_clamp (by omega), of_decide_eq_true zc1]
    exact fin () _ _ _ _ dX5_copy_53 rfl (by rw [ze] <;> rfl) (by rw [ze] <;> first | rfl | (simp only [stB, sC, sB, sZ, sF, sN, sP, uA_s, uA_n _ _ hne] <;> rfl)) trivial
  · skip
    refine j_aload 39 cx 0 dX5_copy_39 rfl ?_
    refine j_callV_i 41 cx 0 [5] [] (fun _ => wXO o ax (sP S) ++ ([((ax 7), .inl (gI G, 7, .inl (sF S)))] ++ ([((ax 6), .inl (gS G, 4, .inr (.inr (.inr (.inr (fun j => some (sh j)))))))] ++ (wSH (sh k) (nh k) (sB S k) (nI (sZ S k)) ++ ([((nh k), .inl (gJ G, 40, .inr (.inl (sC S k))))] ++ (wSH (sh k2) (nh k2) (sB S k2) (nI (sZ S k2)) ++ [((nh k2), .inl (gJ G, 40, .inr (.inl (sC S k2))))])))))) (c_X3_isMissing (kl K) G (sh k2) (nh k2) (sB S k2) (nI (sZ S k2))) gX5_copy_X3_isMissing rfl rfl rfl ⟨rfl, by decide, by decide, rfl⟩ ⟨Nat.le_of_ble_eq_true rfl, Nat.le_of_ble_eq_true rfl⟩ ⟨Nat.zero_le _, Nat.zero_le _⟩ rfl (by decide) (ci := 2) 0 rfl rfl rfl rfl rfl (Nat.le_of_ble_eq_true rfl) dX5_copy_41 (fun _ => rfl) (fun zu5 zk5 => ?_)
    refine j_top (bI (decide ((sB S k2) = 0))) rfl ?_
    refine j_ifB_eq 44 cx 54 dX5_copy_44 (by decide) (fun zc2 => ?_) (fun zc2 => ?_)
    · skip
      refine j_aload 54 cx 1 dX5_copy_54 rfl ?_
      refine j_get 56 cx 3 1 (T := TX3) (v := .int ((sB S k))) (fun _ h => List.mem_cons_of_mem _ (List.mem_append_left _ (List.mem_append_right _ (h)))) (List.mem_of_getElem? (i := 3) rfl) (ci := 2) rfl (by decide) rfl rfl rfl dX5_copy_56 ?_
      refine j_aload 59 cx 0 dX5_copy_59 rfl ?_
      refine j_get 61 cx 5 1 (T := TX3) (v := .int ((sB S k2))) (fun _ h => List.mem_cons_of_mem _ (List.mem_append_left _ (List.mem_append_right _ (h)))) (List.mem_of_getElem? (i := 3) rfl) (ci := 2) rfl (by decide) rfl rfl rfl dX5_copy_61 ?_
      refine j_icmp_eq 64 cx 74 dX5_copy_64 (by decide) (fun zc3 => ?_) (fun zc3 => ?_)
      · skip
        refine j_aload 74 cx 1 dX5_copy_74 rfl ?_
        refine j_iload_n 76 cx 4 dX5_copy_76 rfl ?_
        refine j_iload 77 cx 7 dX5_copy_77 rfl ?_
        refine j_callV_i 79 cx 2 [3] [.int a, .int n] (fun _ => wXO o ax (sP S) ++ ([((ax 7), .inl (gI G, 7, .inl (sF S)))] ++ ([((ax 6), .inl (gS G, 4, .inr (.inr (.inr (.inr (fun j => some (sh j)))))))] ++ (wSH (sh k) (nh k) (sB S k) (nI (sZ S k)) ++ ([((nh k), .inl (gJ G, 40, .inr (.inl (sC S k))))] ++ (wSH (sh k2) (nh k2) (sB S k2) (nI (sZ S k2)) ++ [((nh k2), .inl (gJ G, 40, .inr (.inl (sC S k2))))])))))) (c_X3_hasSpan (kl K) G (sh k) (nh k) (sB S k) (nI (sZ S k)) a n) gX5_copy_X3_hasSpan rfl rfl rfl ⟨rfl, by decide, by decide, rfl⟩ ⟨Nat.le_of_ble_eq_true rfl, Nat.le_of_ble_eq_true rfl⟩ ⟨Nat.zero_le _, Nat.zero_le _⟩ rfl (by decide) (ci := 2) 0 rfl rfl rfl rfl rfl (Nat.le_of_ble_eq_true rfl) dX5_copy_79 (fun _ => rfl) (fun zu6 zk6 => ?_)
        refine j_top (bI (spanB (nI (sZ S k)) a n)) rfl ?_
        refine j_ifB_eq 82 cx 97 dX5_copy_82 (by decide) (fun zc4 => ?_) (fun zc4 => ?_)
        · skip
          refine j_aload_n 97 cx 2 dX5_copy_97 rfl ?_
          refine j_ldc 98 cx (v := -1000000001) (List.mem_of_getElem? (i := 1) rfl) dX5_copy_98 ?_
          refine j_callV_i 100 cx 1 [0, 1] [.int (fcode 0)] (fun _ => wXO o ax (sP S) ++ ([((ax 7), .inl (gI G, 7, .inl (upd (sF S) 0 ((sF S) 0 + 1))))] ++ ([((ax 6), .inl (gS G, 4, .inr (.inr (.inr (.inr (fun j => some (sh j)))))))] ++ (wSH (sh k) (nh k) (sB S k) (nI (sZ S k)) ++ ([((nh k), .inl (gJ G, 40, .inr (.inl (sC S k))))] ++ (wSH (sh k2) (nh k2) (sB S k2) (nI (sZ S k2)) ++ [((nh k2), .inl (gJ G, 40, .inr (.inl (sC S k2))))])))))) (c_X5_finding (kl K) G o ax (sP S) (sF S) 0 (by decide)) gX5_copy_X5_finding rfl rfl rfl ⟨rfl, by decide, by decide, rfl⟩ ⟨Nat.le_of_ble_eq_true rfl, Nat.le_of_ble_eq_true rfl⟩ ⟨Nat.zero_le _, Nat.zero_le _⟩ rfl (by decide) (ci := 4) 0 rfl rfl rfl rfl rfl (Nat.le_of_ble_eq_true rfl) dX5_copy_100 (fun _ => rfl) (fun zu7 zk7 => ?_)
          refine j_top (fcode 0) rfl ?_
          have ze : (sp_copy (nI k) a (nI k2) b n S) = bad S 0 := by unfold sp_copy; simp [s_in hk, s_in hk2, show pN (nI k2) = k2 from nI_clamp (by omega), show pN (nI k) = k from nI_clamp (by omega), of_decide_eq_false zc1, of_decide_eq_false zc2, zc3, zc4]
          exact fin () _ _ _ _ dX5_copy_103 rfl (by rw [ze] <;> rfl) (by rw [ze] <;> first | rfl | (simp only [stB, sC, sB, sZ, sF, sN, sP, uA_s, uA_n _ _ hne] <;> rfl)) trivial
        · skip
          refine j_aload 85 cx 0 dX5_copy_85 rfl ?_
          refine j_iload 87 cx 6 dX5_copy_87 rfl ?_
          refine j_iload 89 cx 7 dX5_copy_89 rfl ?_
          refine j_callV_i 91 cx 2 [5] [.int b, .int n] (fun _ => wXO o ax (sP S) ++ ([((ax 7), .inl (gI G, 7, .inl (sF S)))] ++ ([((ax 6), .inl (gS G, 4, .inr (.inr (.inr (.inr (fun j => some (sh j)))))))] ++ (wSH (sh k) (nh k) (sB S k) (nI (sZ S k)) ++ ([((nh k), .inl (gJ G, 40, .inr (.inl (sC S k))))] ++ (wSH (sh k2) (nh k2) (sB S k2) (nI (sZ S k2)) ++ [((nh k2), .inl (gJ G, 40, .inr (.inl (sC S k2))))])))))) (c_X3_hasSpan (kl K) G (sh k2) (nh k2) (sB S k2) (nI (sZ S k2)) b n) gX5_copy_X3_hasSpan rfl rfl rfl ⟨rfl, by decide, by decide, rfl⟩ ⟨Nat.le_of_ble_eq_true rfl, Nat.le_of_ble_eq_true rfl⟩ ⟨Nat.zero_le _, Nat.zero_le _⟩ rfl (by decide) (ci := 2) 0 rfl rfl rfl rfl rfl (Nat.le_of_ble_eq_true rfl) dX5_copy_91 (fun _ => rfl) (fun zu8 zk8 => ?_)
          refine j_top (bI (spanB (nI (sZ S k2)) b n)) rfl ?_
          refine j_ifB_ne 94 cx 104 dX5_copy_94 (by decide) (fun zc5 => ?_) (fun zc5 => ?_)
          · skip
            obtain ⟨a0, b0, n0, rfl, rfl, rfl, hn1, hn2⟩ := span_nat hz hz2 zc4 zc5
            have hca : pN (nI a0) = a0 := nI_clamp (by omega)
            have hcb : pN (nI b0) = b0 := nI_clamp (by omega)
            have hcn : pN (nI n0) = n0 := nI_clamp (by omega)
            refine j_aload 104 cx 1 dX5_copy_104 rfl ?_
            refine j_get 106 cx 3 0 (T := TX3) (v := .ref ((nh k))) (fun _ h => List.mem_cons_of_mem _ (List.mem_append_left _ (List.mem_append_right _ (h)))) (List.mem_of_getElem? (i := 5) rfl) (ci := 2) rfl (by decide) rfl rfl rfl dX5_copy_106 ?_
            refine j_iload_n 109 cx 4 dX5_copy_109 rfl ?_
            refine j_aload 110 cx 0 dX5_copy_110 rfl ?_
            refine j_get 112 cx 5 0 (T := TX3) (v := .ref ((nh k2))) (fun _ h => List.mem_cons_of_mem _ (List.mem_append_left _ (List.mem_append_right _ (h)))) (List.mem_of_getElem? (i := 5) rfl) (ci := 2) rfl (by decide) rfl rfl rfl dX5_copy_112 ?_
            refine j_iload 115 cx 6 dX5_copy_115 rfl ?_
            refine j_iload 117 cx 7 dX5_copy_117 rfl ?_
            refine j_copyl 119 cx 4 6 a0 b0 n0 (wXO o ax (sP S) ++ ([((ax 7), .inl (gI G, 7, .inl (sF S)))] ++ ([((ax 6), .inl (gS G, 4, .inr (.inr (.inr (.inr (fun j => some (sh j)))))))] ++ (wSH (sh k) (nh k) (sB S k) (nI (sZ S k)) ++ ([((nh k), .inl (gJ G, 40, .inr (.inl (sC S k))))] ++ (wSH (sh k2) (nh k2) (sB S k2) (nI (sZ S k2)) ++ [((nh k2), .inl (gJ G, 40, .inr (.inl (va_cpy (sC S k) (sC S k2) a0 b0 n0))))])))))) (List.mem_of_getElem? (i := 6) rfl) (List.mem_of_getElem? (i := 7) rfl) (List.mem_of_getElem? (i := 8) rfl) (List.mem_of_getElem? (i := 9) rfl) rfl rfl rfl rfl rfl (by omega) (by omega) (by decide) (by decide) rfl (by decide) (Nat.le_of_ble_eq_true rfl) dX5_copy_119 ?_
            refine j_iload 122 cx 7 dX5_copy_122 rfl ?_
            have ze : (sp_copy (nI k) (nI a0) (nI k2) (nI b0) (nI n0) S) = (nI n0, stB S (sB S) (sZ S) (uA (sC S) k2 (va_cpy (sC S k) (sC S k2) a0 b0 n0))) := by unfold sp_copy; simp [s_in hk, s_in hk2, show pN (nI k2) = k2 from nI_clamp (by omega), show pN (nI k) = k from nI_clamp (by omega), of_decide_eq_false zc1, of_decide_eq_false zc2, zc3, zc4, zc5, hca, hcb, hcn]
            exact fin () _ _ _ _ dX5_copy_124 rfl (by rw [ze] <;> rfl) (by rw [ze] <;> first | rfl | (simp only [stB, sC, sB, sZ, sF, sN, sP, uA_s, uA_n _ _ hne] <;> rfl)) trivial
          · skip
            refine j_aload_n 97 cx 2 dX5_copy_97 rfl ?_
            refine j_ldc 98 cx (v := -1000000001) (List.mem_of_getElem? (i := 1) rfl) dX5_copy_98 ?_
            refine j_callV_i 100 cx 1 [0, 1] [.int (fcode 0)] (fun _ => wXO o ax (sP S) ++ ([((ax 7), .inl (gI G, 7, .inl (upd (sF S) 0 ((sF S) 0 + 1))))] ++ ([((ax 6), .inl (gS G, 4, .inr (.inr (.inr (.inr (fun j => some (sh j)))))))] ++ (wSH (sh k) (nh k) (sB S k) (nI (sZ S k)) ++ ([((nh k), .inl (gJ G, 40, .inr (.inl (sC S k))))] ++ (wSH (sh k2) (nh k2) (sB S k2) (nI (sZ S k2)) ++ [((nh k2), .inl (gJ G, 40, .inr (.inl (sC S k2))))])))))) (c_X5_finding (kl K) G o ax (sP S) (sF S) 0 (by decide)) gX5_copy_X5_finding rfl rfl rfl ⟨rfl, by decide, by decide, rfl⟩ ⟨Nat.le_of_ble_eq_true rfl, Nat.le_of_ble_eq_true rfl⟩ ⟨Nat.zero_le _, Nat.zero_le _⟩ rfl (by decide) (ci := 4) 0 rfl rfl rfl rfl rfl (Nat.le_of_ble_eq_true rfl) dX5_copy_100 (fun _ => rfl) (fun zu9 zk9 => ?_)
            refine j_top (fcode 0) rfl ?_
            have ze : (sp_copy (nI k) a (nI k2) b n S) = bad S 0 := by unfold sp_copy; simp [s_in hk, s_in hk2, show pN (nI k2) = k2 from nI_clamp (by omega), show pN (nI k) = k from nI_clamp (by omega), of_decide_eq_false zc1, of_decide_eq_false zc2, zc3, zc4, zc5]
            exact fin () _ _ _ _ dX5_copy_103 rfl (by rw [ze] <;> rfl) (by rw [ze] <;> first | rfl | (simp only [stB, sC, sB, sZ, sF, sN, sP, uA_s, uA_n _ _ hne] <;> rfl)) trivial
      · skip
        refine j_aload_n 67 cx 2 dX5_copy_67 rfl ?_
        refine j_ldc 68 cx (v := -1000000003) (List.mem_of_getElem? (i := 4) rfl) dX5_copy_68 ?_
        refine j_callV_i 70 cx 1 [0, 1] [.int (fcode 2)] (fun _ => wXO o ax (sP S) ++ ([((ax 7), .inl (gI G, 7, .inl (upd (sF S) 2 ((sF S) 2 + 1))))] ++ ([((ax 6), .inl (gS G, 4, .inr (.inr (.inr (.inr (fun j => some (sh j)))))))] ++ (wSH (sh k) (nh k) (sB S k) (nI (sZ S k)) ++ ([((nh k), .inl (gJ G, 40, .inr (.inl (sC S k))))] ++ (wSH (sh k2) (nh k2) (sB S k2) (nI (sZ S k2)) ++ [((nh k2), .inl (gJ G, 40, .inr (.inl (sC S k2))))])))))) (c_X5_finding (kl K) G o ax (sP S) (sF S) 2 (by decide)) gX5_copy_X5_finding rfl rfl rfl ⟨rfl, by decide, by decide, rfl⟩ ⟨Nat.le_of_ble_eq_true rfl, Nat.le_of_ble_eq_true rfl⟩ ⟨Nat.zero_le _, Nat.zero_le _⟩ rfl (by decide) (ci := 4) 0 rfl rfl rfl rfl rfl (Nat.le_of_ble_eq_true rfl) dX5_copy_70 (fun _ => rfl) (fun zu10 zk10 => ?_)
        refine j_top (fcode 2) rfl ?_
        have ze : (sp_copy (nI k) a (nI k2) b n S) = bad S 2 := by unfold sp_copy; simp [s_in hk, s_in hk2, show pN (nI k2) = k2 from nI_clamp (by omega), show pN (nI k) = k from nI_clamp (by omega), of_decide_eq_false zc1, of_decide_eq_false zc2, zc3]
        exact fin () _ _ _ _ dX5_copy_73 rfl (by rw [ze] <;> rfl) (by rw [ze] <;> first | rfl | (simp only [stB, sC, sB, sZ, sF, sN, sP, uA_s, uA_n _ _ hne] <;> rfl)) trivial
    · skip
      refine j_aload_n 47 cx 2 dX5_copy_47 rfl ?_
      refine j_ldc 48 cx (v := -1000000006) (List.mem_of_getElem? (i := 2) rfl) dX5_copy_48 ?_
      refine j_callV_i 50 cx 1 [0, 1] [.int (fcode 5)] (fun _ => wXO o ax (sP S) ++ ([((ax 7), .inl (gI G, 7, .inl (upd (sF S) 5 ((sF S) 5 + 1))))] ++ ([((ax 6), .inl (gS G, 4, .inr (.inr (.inr (.inr (fun j => some (sh j)))))))] ++ (wSH (sh k) (nh k) (sB S k) (nI (sZ S k)) ++ ([((nh k), .inl (gJ G, 40, .inr (.inl (sC S k))))] ++ (wSH (sh k2) (nh k2) (sB S k2) (nI (sZ S k2)) ++ [((nh k2), .inl (gJ G, 40, .inr (.inl (sC S k2))))])))))) (c_X5_finding (kl K) G o ax (sP S) (sF S) 5 (by decide)) gX5_copy_X5_finding rfl rfl rfl ⟨rfl, by decide, by decide, rfl⟩ ⟨Nat.le_of_ble_eq_true rfl, Nat.le_of_ble_eq_true rfl⟩ ⟨Nat.zero_le _, Nat.zero_le _⟩ rfl (by decide) (ci := 4) 0 rfl rfl rfl rfl rfl (Nat.le_of_ble_eq_true rfl) dX5_copy_50 (fun _ => rfl) (fun zu11 zk11 => ?_)
      refine j_top (fcode 5) rfl ?_
      have ze : (sp_copy (nI k) a (nI k2) b n S) = bad S 5 := by unfold sp_copy; simp [s_in hk, s_in hk2, show pN (nI k2) = k2 from nI_clamp (by omega), show pN (nI k) = k from nI_clamp (by omega), of_decide_eq_false zc1, of_decide_eq_true zc2]
      exact fin () _ _ _ _ dX5_copy_53 rfl (by rw [ze] <;> rfl) (by rw [ze] <;> first | rfl | (simp only [stB, sC, sB, sZ, sF, sN, sP, uA_s, uA_n _ _ hne] <;> rfl)) trivial
set_option maxRecDepth 100000 in
set_option maxHeartbeats 4000000 in
theorem c_X5_copy_s (l : Launch) (G : pG) (o : Nat) (ax : Nat → Nat) (sh nh : Nat → Nat) (k : Nat) (hk : k < 4) (S : St) (hz : sZ S k ≤ 40) (a b n : Int32) : KI l G yX5_copy wsX5_copy ({ frames := 2, cells := 0, slots := 0, locals := 43 } : Room) [.ref o, .int (nI k), .int a, .int (nI k), .int b, .int n] (wXO o ax (sP S) ++ ([((ax 7), .inl (gI G, 7, .inl (sF S)))] ++ ([((ax 6), .inl (gS G, 4, .inr (.inr (.inr (.inr (fun j => some (sh j)))))))] ++ (wSH (sh k) (nh k) (sB S k) (nI (sZ S k)) ++ [((nh k), .inl (gJ G, 40, .inr (.inl (sC S k))))])))) (S := Unit) (fun _ => True) (fun u => (sp_copy (nI k) a (nI k) b n S).1) (fun u => wXO o ax (sP S) ++ ([((ax 7), .inl (gI G, 7, .inl (sF (sp_copy (nI k) a (nI k) b n S).2)))] ++ ([((ax 6), .inl (gS G, 4, .inr (.inr (.inr (.inr (fun j => some (sh j)))))))] ++ (wSH (sh k) (nh k) (sB (sp_copy (nI k) a (nI k) b n S).2 k) (nI (sZ (sp_copy (nI k) a (nI k) b n S).2 k)) ++ [((nh k), .inl (gJ G, 40, .inr (.inl (sC (sp_copy (nI k) a (nI k) b n S).2 k))))])))) := by
  refine ki_of [(0, .ref o), (1, .int (nI k)), (2, .int a), (3, .int (nI k)), (4, .int b), (5, .int n)] (own := RX5) (cc := cX5_copy) (nL := 8) (by decide +kernel) rfl rfl (Nat.le_of_ble_eq_true rfl) rfl (fun _ => rfl) (fun K cx fin => ?_)
  refine j_aload_n 0 cx 0 dX5_copy_0 rfl ?_
  refine j_iload_n 1 cx 1 dX5_copy_1 rfl ?_
  refine j_callV_q 2 cx 1 [0, 2] [.int (nI k)] (fun _ => wXO o ax (sP S) ++ ([((ax 7), .inl (gI G, 7, .inl (sF S)))] ++ ([((ax 6), .inl (gS G, 4, .inr (.inr (.inr (.inr (fun j => some (sh j)))))))] ++ (wSH (sh k) (nh k) (sB S k) (nI (sZ S k)) ++ [((nh k), .inl (gJ G, 40, .inr (.inl (sC S k))))])))) (c_X5_sheetAt_t (kl K) G o ax (sP S) sh k hk) gX5_copy_X5_sheetAt rfl rfl rfl ⟨rfl, by decide, by decide, rfl⟩ ⟨Nat.le_of_ble_eq_true rfl, Nat.le_of_ble_eq_true rfl⟩ ⟨Nat.zero_le _, Nat.zero_le _⟩ rfl (by decide) (ci := 4) 0 rfl rfl rfl rfl rfl (Nat.le_of_ble_eq_true rfl) dX5_copy_2 (fun _ => rfl) (fun zu1 zk1 => ?_)
  refine j_st (st' := [.ref ((sh k))]) rfl ?_
  refine j_astore 5 cx [(6, .ref ((sh k))), (0, .ref o), (1, .int (nI k)), (2, .int a), (3, .int (nI k)), (4, .int b), (5, .int n)] dX5_copy_5 (by decide) rfl ?_
  refine j_aload_n 7 cx 1 dX5_copy_7 rfl ?_
  refine j_iload_n 8 cx 4 dX5_copy_8 rfl ?_
  refine j_callV_q 9 cx 1 [0, 2] [.int (nI k)] (fun _ => wXO o ax (sP S) ++ ([((ax 7), .inl (gI G, 7, .inl (sF S)))] ++ ([((ax 6), .inl (gS G, 4, .inr (.inr (.inr (.inr (fun j => some (sh j)))))))] ++ (wSH (sh k) (nh k) (sB S k) (nI (sZ S k)) ++ [((nh k), .inl (gJ G, 40, .inr (.inl (sC S k))))])))) (c_X5_sheetAt_t (kl K) G o ax (sP S) sh k hk) gX5_copy_X5_sheetAt rfl rfl rfl ⟨rfl, by decide, by decide, rfl⟩ ⟨Nat.le_of_ble_eq_true rfl, Nat.le_of_ble_eq_true rfl⟩ ⟨Nat.zero_le _, Nat.zero_le _⟩ rfl (by decide) (ci := 4) 0 rfl rfl rfl rfl rfl (Nat.le_of_ble_eq_true rfl) dX5_copy_9 (fun _ => rfl) (fun zu2 zk2 => ?_)
  refine j_st (st' := [.ref ((sh k))]) rfl ?_
  refine j_astore 12 cx [(7, .ref ((sh k))), (6, .ref ((sh k))), (0, .ref o), (1, .int (nI k)), (2, .int a), (3, .int (nI k)), (4, .int b), (5, .int n)] dX5_copy_12 (by decide) rfl ?_
  refine j_aload 14 cx 1 dX5_copy_14 rfl ?_
  refine j_ifnull 16 cx dX5_copy_16 ?_
  refine j_aload 19 cx 0 dX5_copy_19 rfl ?_
  refine j_ifnonnull 21 cx 31 dX5_copy_21 (by decide) ?_
  refine j_aload 31 cx 1 dX5_copy_31 rfl ?_
  refine j_callV_i 33 cx 0 [3] [] (fun _ => wXO o ax (sP S) ++ ([((ax 7), .inl (gI G, 7, .inl (sF S)))] ++ ([((ax 6), .inl (gS G, 4, .inr (.inr (.inr (.inr (fun j => some (sh j)))))))] ++ (wSH (sh k) (nh k) (sB S k) (nI (sZ S k)) ++ [((nh k), .inl (gJ G, 40, .inr (.inl (sC S k))))])))) (c_X3_isMissing (kl K) G (sh k) (nh k) (sB S k) (nI (sZ S k))) gX5_copy_X3_isMissing rfl rfl rfl ⟨rfl, by decide, by decide, rfl⟩ ⟨Nat.le_of_ble_eq_true rfl, Nat.le_of_ble_eq_true rfl⟩ ⟨Nat.zero_le _, Nat.zero_le _⟩ rfl (by decide) (ci := 2) 0 rfl rfl rfl rfl rfl (Nat.le_of_ble_eq_true rfl) dX5_copy_33 (fun _ => rfl) (fun zu3 zk3 => ?_)
  refine j_top (bI (decide ((sB S k) = 0))) rfl ?_
  refine j_ifB_ne 36 cx 47 dX5_copy_36 (by decide) (fun zc1 => ?_) (fun zc1 => ?_)
  · skip
    refine j_aload_n 47 cx 2 dX5_copy_47 rfl ?_
    refine j_ldc 48 cx (v := -1000000006) (List.mem_of_getElem? (i := 2) rfl) dX5_copy_48 ?_
    refine j_callV_i 50 cx 1 [0, 1] [.int (fcode 5)] (fun _ => wXO o ax (sP S) ++ ([((ax 7), .inl (gI G, 7, .inl (upd (sF S) 5 ((sF S) 5 + 1))))] ++ ([((ax 6), .inl (gS G, 4, .inr (.inr (.inr (.inr (fun j => some (sh j)))))))] ++ (wSH (sh k) (nh k) (sB S k) (nI (sZ S k)) ++ [((nh k), .inl (gJ G, 40, .inr (.inl (sC S k))))])))) (c_X5_finding (kl K) G o ax (sP S) (sF S) 5 (by decide)) gX5_copy_X5_finding rfl rfl rfl ⟨rfl, by decide, by decide, rfl⟩ ⟨Nat.le_of_ble_eq_true rfl, Nat.le_of_ble_eq_true rfl⟩ ⟨Nat.zero_le _, Nat.zero_le _⟩ rfl (by decide) (ci := 4) 0 rfl rfl rfl rfl rfl (Nat.le_of_ble_eq_true rfl) dX5_copy_50 (fun _ => rfl) (fun zu4 zk4 => ?_)
    refine j_top (fcode 5) rfl ?_
    have ze : (sp_copy (nI k) a (nI k) b n S) = bad S 5 := by unfold sp_copy; simp [s_in hk, show pN (nI k) = k from nI_clamp (by omega), of_decide_eq_true zc1]
    exact fin () _ _ _ _ dX5_copy_53 rfl (by rw [ze] <;> rfl) (by rw [ze] <;> first | rfl | (simp only [stB, sC, sB, sZ, sF, sN, sP, uA_s] <;> rfl)) trivial
  · skip
    refine j_aload 39 cx 0 dX5_copy_39 rfl ?_
    refine j_callV_i 41 cx 0 [3] [] (fun _ => wXO o ax (sP S) ++ ([((ax 7), .inl (gI G, 7, .inl (sF S)))] ++ ([((ax 6), .inl (gS G, 4, .inr (.inr (.inr (.inr (fun j => some (sh j)))))))] ++ (wSH (sh k) (nh k) (sB S k) (nI (sZ S k)) ++ [((nh k), .inl (gJ G, 40, .inr (.inl (sC S k))))])))) (c_X3_isMissing (kl K) G (sh k) (nh k) (sB S k) (nI (sZ S k))) gX5_copy_X3_isMissing rfl rfl rfl ⟨rfl, by decide, by decide, rfl⟩ ⟨Nat.le_of_ble_eq_true rfl, Nat.le_of_ble_eq_true rfl⟩ ⟨Nat.zero_le _, Nat.zero_le _⟩ rfl (by decide) (ci := 2) 0 rfl rfl rfl rfl rfl (Nat.le_of_ble_eq_true rfl) dX5_copy_41 (fun _ => rfl) (fun zu5 zk5 => ?_)
    refine j_top (bI (decide ((sB S k) = 0))) rfl ?_
    refine j_ifB_eq 44 cx 54 dX5_copy_44 (by decide) (fun zc2 => ?_) (fun zc2 => ?_)
    · skip
      refine j_aload 54 cx 1 dX5_copy_54 rfl ?_
      refine j_get 56 cx 3 1 (T := TX3) (v := .int ((sB S k))) (fun _ h => List.mem_cons_of_mem _ (List.mem_append_left _ (List.mem_append_right _ (h)))) (List.mem_of_getElem? (i := 3) rfl) (ci := 2) rfl (by decide) rfl rfl rfl dX5_copy_56 ?_
      refine j_aload 59 cx 0 dX5_copy_59 rfl ?_
      refine j_get 61 cx 3 1 (T := TX3) (v := .int ((sB S k))) (fun _ h => List.mem_cons_of_mem _ (List.mem_append_left _ (List.mem_append_right _ (h)))) (List.mem_of_getElem? (i := 3) rfl) (ci := 2) rfl (by decide) rfl rfl rfl dX5_copy_61 ?_
      refine j_icmp_eq 64 cx 74 dX5_copy_64 (by decide) (fun zc3 => ?_) (fun zc3 => ?_)
      · skip
        refine j_aload 74 cx 1 dX5_copy_74 rfl ?_
        refine j_iload_n 76 cx 4 dX5_copy_76 rfl ?_
        refine j_iload 77 cx 7 dX5_copy_77 rfl ?_
        refine j_callV_i 79 cx 2 [3] [.int a, .int n] (fun _ => wXO o ax (sP S) ++ ([((ax 7), .inl (gI G, 7, .inl (sF S)))] ++ ([((ax 6), .inl (gS G, 4, .inr (.inr (.inr (.inr (fun j => some (sh j)))))))] ++ (wSH (sh k) (nh k) (sB S k) (nI (sZ S k)) ++ [((nh k), .inl (gJ G, 40, .inr (.inl (sC S k))))])))) (c_X3_hasSpan (kl K) G (sh k) (nh k) (sB S k) (nI (sZ S k)) a n) gX5_copy_X3_hasSpan rfl rfl rfl ⟨rfl, by decide, by decide, rfl⟩ ⟨Nat.le_of_ble_eq_true rfl, Nat.le_of_ble_eq_true rfl⟩ ⟨Nat.zero_le _, Nat.zero_le _⟩ rfl (by decide) (ci := 2) 0 rfl rfl rfl rfl rfl (Nat.le_of_ble_eq_true rfl) dX5_copy_79 (fun _ => rfl) (fun zu6 zk6 => ?_)
        refine j_top (bI (spanB (nI (sZ S k)) a n)) rfl ?_
        refine j_ifB_eq 82 cx 97 dX5_copy_82 (by decide) (fun zc4 => ?_) (fun zc4 => ?_)
        · skip
          refine j_aload_n 97 cx 2 dX5_copy_97 rfl ?_
          refine j_ldc 98 cx (v := -1000000001) (List.mem_of_getElem? (i := 1) rfl) dX5_copy_98 ?_
          refine j_callV_i 100 cx 1 [0, 1] [.int (fcode 0)] (fun _ => wXO o ax (sP S) ++ ([((ax 7), .inl (gI G, 7, .inl (upd (sF S) 0 ((sF S) 0 + 1))))] ++ ([((ax 6), .inl (gS G, 4, .inr (.inr (.inr (.inr (fun j => some (sh j)))))))] ++ (wSH (sh k) (nh k) (sB S k) (nI (sZ S k)) ++ [((nh k), .inl (gJ G, 40, .inr (.inl (sC S k))))])))) (c_X5_finding (kl K) G o ax (sP S) (sF S) 0 (by decide)) gX5_copy_X5_finding rfl rfl rfl ⟨rfl, by decide, by decide, rfl⟩ ⟨Nat.le_of_ble_eq_true rfl, Nat.le_of_ble_eq_true rfl⟩ ⟨Nat.zero_le _, Nat.zero_le _⟩ rfl (by decide) (ci := 4) 0 rfl rfl rfl rfl rfl (Nat.le_of_ble_eq_true rfl) dX5_copy_100 (fun _ => rfl) (fun zu7 zk7 => ?_)
          refine j_top (fcode 0) rfl ?_
          have ze : (sp_copy (nI k) a (nI k) b n S) = bad S 0 := by unfold sp_copy; simp [s_in hk, show pN (nI k) = k from nI_clamp (by omega), of_decide_eq_false zc1, of_decide_eq_false zc2, zc3, zc4]
          exact fin () _ _ _ _ dX5_copy_103 rfl (by rw [ze] <;> rfl) (by rw [ze] <;> first | rfl | (simp only [stB, sC, sB, sZ, sF, sN, sP, uA_s] <;> rfl)) trivial
        · skip
          refine j_aload 85 cx 0 dX5_copy_85 rfl ?_
          refine j_iload 87 cx 6 dX5_copy_87 rfl ?_
          refine j_iload 89 cx 7 dX5_copy_89 rfl ?_
          refine j_callV_i 91 cx 2 [3] [.int b, .int n] (fun _ => wXO o ax (sP S) ++ ([((ax 7), .inl (gI G, 7, .inl (sF S)))] ++ ([((ax 6), .inl (gS G, 4, .inr (.inr (.inr (.inr (fun j => some (sh j)))))))] ++ (wSH (sh k) (nh k) (sB S k) (nI (sZ S k)) ++ [((nh k), .inl (gJ G, 40, .inr (.inl (sC S k))))])))) (c_X3_hasSpan (kl K) G (sh k) (nh k) (sB S k) (nI (sZ S k)) b n) gX5_copy_X3_hasSpan rfl rfl rfl ⟨rfl, by decide, by decide, rfl⟩ ⟨Nat.le_of_ble_eq_true rfl, Nat.le_of_ble_eq_true rfl⟩ ⟨Nat.zero_le _, Nat.zero_le _⟩ rfl (by decide) (ci := 2) 0 rfl rfl rfl rfl rfl (Nat.le_of_ble_eq_true rfl) dX5_copy_91 (fun _ => rfl) (fun zu8 zk8 => ?_)
          refine j_top (bI (spanB (nI (sZ S k)) b n)) rfl ?_
          refine j_ifB_ne 94 cx 104 dX5_copy_94 (by decide) (fun zc5 => ?_) (fun zc5 => ?_)
          · skip
            obtain ⟨a0, b0, n0, rfl, rfl, rfl, hn1, hn2⟩ := span_nat hz hz zc4 zc5
            have hca : pN (nI a0) = a0 := nI_clamp (by omega)
            have hcb : pN (nI b0) = b0 := nI_clamp (by omega)
            have hcn : pN (nI n0) = n0 := nI_clamp (by omega)
            refine j_aload 104 cx 1 dX5_copy_104 rfl ?_
            refine j_get 106 cx 3 0 (T := TX3) (v := .ref ((nh k))) (fun _ h => List.mem_cons_of_mem _ (List.mem_append_left _ (List.mem_append_right _ (h)))) (List.mem_of_getElem? (i := 5) rfl) (ci := 2) rfl (by decide) rfl rfl rfl dX5_copy_106 ?_
            refine j_iload_n 109 cx 4 dX5_copy_109 rfl ?_
            refine j_aload 110 cx 0 dX5_copy_110 rfl ?_
            refine j_get 112 cx 3 0 (T := TX3) (v := .ref ((nh k))) (fun _ h => List.mem_cons_of_mem _ (List.mem_append_left _ (List.mem_append_right _ (h)))) (List.mem_of_getElem? (i := 5) rfl) (ci := 2) rfl (by decide) rfl rfl rfl dX5_copy_112 ?_
            refine j_iload 115 cx 6 dX5_copy_115 rfl ?_
            refine j_iload 117 cx 7 dX5_copy_117 rfl ?_
            refine j_copyl 119 cx 4 4 a0 b0 n0 (wXO o ax (sP S) ++ ([((ax 7), .inl (gI G, 7, .inl (sF S)))] ++ ([((ax 6), .inl (gS G, 4, .inr (.inr (.inr (.inr (fun j => some (sh j)))))))] ++ (wSH (sh k) (nh k) (sB S k) (nI (sZ S k)) ++ [((nh k), .inl (gJ G, 40, .inr (.inl (va_cpy (sC S k) (sC S k) a0 b0 n0))))])))) (List.mem_of_getElem? (i := 6) rfl) (List.mem_of_getElem? (i := 7) rfl) (List.mem_of_getElem? (i := 8) rfl) (List.mem_of_getElem? (i := 9) rfl) rfl rfl rfl rfl rfl (by omega) (by omega) (by decide) (by decide) rfl (by decide) (Nat.le_of_ble_eq_true rfl) dX5_copy_119 ?_
            refine j_iload 122 cx 7 dX5_copy_122 rfl ?_
            have ze : (sp_copy (nI k) (nI a0) (nI k) (nI b0) (nI n0) S) = (nI n0, stB S (sB S) (sZ S) (uA (sC S) k (va_cpy (sC S k) (sC S k) a0 b0 n0))) := by unfold sp_copy; simp [s_in hk, show pN (nI k) = k from nI_clamp (by omega), of_decide_eq_false zc1, of_decide_eq_false zc2, zc3, zc4, zc5, hca, hcb, hcn]
            exact fin () _ _ _ _ dX5_copy_124 rfl (by rw [ze] <;> rfl) (by rw [ze] <;> first | rfl | (simp only [stB, sC, sB, sZ, sF, sN, sP, uA_s] <;> rfl)) trivial
          · skip
            refine j_aload_n 97 cx 2 dX5_copy_97 rfl ?_
            refine j_ldc 98 cx (v := -1000000001) (List.mem_of_getElem? (i := 1) rfl) dX5_copy_98 ?_
            refine j_callV_i 100 cx 1 [0, 1] [.int (fcode 0)] (fun _ => wXO o ax (sP S) ++ ([((ax 7), .inl (gI G, 7, .inl (upd (sF S) 0 ((sF S) 0 + 1))))] ++ ([((ax 6), .inl (gS G, 4, .inr (.inr (.inr (.inr (fun j => some (sh j)))))))] ++ (wSH (sh k) (nh k) (sB S k) (nI (sZ S k)) ++ [((nh k), .inl (gJ G, 40, .inr (.inl (sC S k))))])))) (c_X5_finding (kl K) G o ax (sP S) (sF S) 0 (by decide)) gX5_copy_X5_finding rfl rfl rfl ⟨rfl, by decide, by decide, rfl⟩ ⟨Nat.le_of_ble_eq_true rfl, Nat.le_of_ble_eq_true rfl⟩ ⟨Nat.zero_le _, Nat.zero_le _⟩ rfl (by decide) (ci := 4) 0 rfl rfl rfl rfl rfl (Nat.le_of_ble_eq_true rfl) dX5_copy_100 (fun _ => rfl) (fun zu9 zk9 => ?_)
            refine j_top (fcode 0) rfl ?_
            have ze : (sp_copy (nI k) a (nI k) b n S) = bad S 0 := by unfold sp_copy; simp [s_in hk, show pN (nI k) = k from nI_clamp (by omega), of_decide_eq_false zc1, of_decide_eq_false zc2, zc3, zc4, zc5]
            exact fin () _ _ _ _ dX5_copy_103 rfl (by rw [ze] <;> rfl) (by rw [ze] <;> first | rfl | (simp only [stB, sC, sB, sZ, sF, sN, sP, uA_s] <;> rfl)) trivial
      · skip
        refine j_aload_n 67 cx 2 dX5_copy_67 rfl ?_
        refine j_ldc 68 cx (v := -1000000003) (List.mem_of_getElem? (i := 4) rfl) dX5_copy_68 ?_
        refine j_callV_i 70 cx 1 [0, 1] [.int (fcode 2)] (fun _ => wXO o ax (sP S) ++ ([((ax 7), .inl (gI G, 7, .inl (upd (sF S) 2 ((sF S) 2 + 1))))] ++ ([((ax 6), .inl (gS G, 4, .inr (.inr (.inr (.inr (fun j => some (sh j)))))))] ++ (wSH (sh k) (nh k) (sB S k) (nI (sZ S k)) ++ [((nh k), .inl (gJ G, 40, .inr (.inl (sC S k))))])))) (c_X5_finding (kl K) G o ax (sP S) (sF S) 2 (by decide)) gX5_copy_X5_finding rfl rfl rfl ⟨rfl, by decide, by decide, rfl⟩ ⟨Nat.le_of_ble_eq_true rfl, Nat.le_of_ble_eq_true rfl⟩ ⟨Nat.zero_le _, Nat.zero_le _⟩ rfl (by decide) (ci := 4) 0 rfl rfl rfl rfl rfl (Nat.le_of_ble_eq_true rfl) dX5_copy_70 (fun _ => rfl) (fun zu10 zk10 => ?_)
        refine j_top (fcode 2) rfl ?_
        have ze : (sp_copy (nI k) a (nI k) b n S) = bad S 2 := absurd rfl zc3
        exact fin () _ _ _ _ dX5_copy_73 rfl (by rw [ze] <;> rfl) (by rw [ze] <;> first | rfl | (simp only [stB, sC, sB, sZ, sF, sN, sP, uA_s] <;> rfl)) trivial
    · skip
      refine j_aload_n 47 cx 2 dX5_copy_47 rfl ?_
      refine j_ldc 48 cx (v := -1000000006) (List.mem_of_getElem? (i := 2) rfl) dX5_copy_48 ?_
      refine j_callV_i 50 cx 1 [0, 1] [.int (fcode 5)] (fun _ => wXO o ax (sP S) ++ ([((ax 7), .inl (gI G, 7, .inl (upd (sF S) 5 ((sF S) 5 + 1))))] ++ ([((ax 6), .inl (gS G, 4, .inr (.inr (.inr (.inr (fun j => some (sh j)))))))] ++ (wSH (sh k) (nh k) (sB S k) (nI (sZ S k)) ++ [((nh k), .inl (gJ G, 40, .inr (.inl (sC S k))))])))) (c_X5_finding (kl K) G o ax (sP S) (sF S) 5 (by decide)) gX5_copy_X5_finding rfl rfl rfl ⟨rfl, by decide, by decide, rfl⟩ ⟨Nat.le_of_ble_eq_true rfl, Nat.le_of_ble_eq_true rfl⟩ ⟨Nat.zero_le _, Nat.zero_le _⟩ rfl (by decide) (ci := 4) 0 rfl rfl rfl rfl rfl (Nat.le_of_ble_eq_true rfl) dX5_copy_50 (fun _ => rfl) (fun zu11 zk11 => ?_)
      refine j_top (fcode 5) rfl ?_
      have ze : (sp_copy (nI k) a (nI k) b n S) = bad S 5 := by unfold sp_copy; simp [s_in hk, show pN (nI k) = k from nI_clamp (by omega), of_decide_eq_false zc1, of_decide_eq_true zc2]
      exact fin () _ _ _ _ dX5_copy_53 rfl (by rw [ze] <;> rfl) (by rw [ze] <;> first | rfl | (simp only [stB, sC, sB, sZ, sF, sN, sP, uA_s] <;> rfl)) trivial
set_option maxRecDepth 100000 in
set_option maxHeartbeats 4000000 in
theorem c_X5_copy_ff (l : Launch) (G : pG) (o : Nat) (ax : Nat → Nat) (sh : Nat → Nat) (S : St) (s : Int32) (hv : inI s 0 3 = false) (t : Int32) (hv2 : inI t 0 3 = false) (a b n : Int32) : KI l G yX5_copy wsX5_copy ({ frames := 2, cells := 0, slots := 0, locals := 43 } : Room) [.ref o, .int s, .int a, .int t, .int b, .int n] (wXO o ax (sP S) ++ ([((ax 7), .inl (gI G, 7, .inl (sF S)))] ++ [((ax 6), .inl (gS G, 4, .inr (.inr (.inr (.inr (fun j => some (sh j)))))))])) (S := Unit) (fun _ => True) (fun u => (sp_copy s a t b n S).1) (fun u => wXO o ax (sP S) ++ ([((ax 7), .inl (gI G, 7, .inl (sF (sp_copy s a t b n S).2)))] ++ [((ax 6), .inl (gS G, 4, .inr (.inr (.inr (.inr (fun j => some (sh j)))))))])) := by
  refine ki_of [(0, .ref o), (1, .int s), (2, .int a), (3, .int t), (4, .int b), (5, .int n)] (own := RX5) (cc := cX5_copy) (nL := 8) (by decide +kernel) rfl rfl (Nat.le_of_ble_eq_true rfl) rfl (fun _ => rfl) (fun K cx fin => ?_)
  refine j_aload_n 0 cx 0 dX5_copy_0 rfl ?_
  refine j_iload_n 1 cx 1 dX5_copy_1 rfl ?_
  refine j_callV_q 2 cx 1 [0, 2] [.int s] (fun _ => wXO o ax (sP S) ++ ([((ax 7), .inl (gI G, 7, .inl (sF S)))] ++ [((ax 6), .inl (gS G, 4, .inr (.inr (.inr (.inr (fun j => some (sh j)))))))])) (c_X5_sheetAt_f (kl K) G o ax (sP S) sh s hv) gX5_copy_X5_sheetAt rfl rfl rfl ⟨rfl, by decide, by decide, rfl⟩ ⟨Nat.le_of_ble_eq_true rfl, Nat.le_of_ble_eq_true rfl⟩ ⟨Nat.zero_le _, Nat.zero_le _⟩ rfl (by decide) (ci := 4) 0 rfl rfl rfl rfl rfl (Nat.le_of_ble_eq_true rfl) dX5_copy_2 (fun _ => rfl) (fun zu1 zk1 => ?_)
  refine j_st (st' := [.null]) rfl ?_
  refine j_astoreN 5 cx [(6, .null), (0, .ref o), (1, .int s), (2, .int a), (3, .int t), (4, .int b), (5, .int n)] dX5_copy_5 (by decide) rfl ?_
  refine j_aload_n 7 cx 1 dX5_copy_7 rfl ?_
  refine j_iload_n 8 cx 4 dX5_copy_8 rfl ?_
  refine j_callV_q 9 cx 1 [0, 2] [.int t] (fun _ => wXO o ax (sP S) ++ ([((ax 7), .inl (gI G, 7, .inl (sF S)))] ++ [((ax 6), .inl (gS G, 4, .inr (.inr (.inr (.inr (fun j => some (sh j)))))))])) (c_X5_sheetAt_f (kl K) G o ax (sP S) sh t hv2) gX5_copy_X5_sheetAt rfl rfl rfl ⟨rfl, by decide, by decide, rfl⟩ ⟨Nat.le_of_ble_eq_true rfl, Nat.le_of_ble_eq_true rfl⟩ ⟨Nat.zero_le _, Nat.zero_le _⟩ rfl (by decide) (ci := 4) 0 rfl rfl rfl rfl rfl (Nat.le_of_ble_eq_true rfl) dX5_copy_9 (fun _ => rfl) (fun zu2 zk2 => ?_)
  refine j_st (st' := [.null]) rfl ?_
  refine j_astoreN 12 cx [(7, .null), (6, .null), (0, .ref o), (1, .int s), (2, .int a), (3, .int t), (4, .int b), (5, .int n)] dX5_copy_12 (by decide) rfl ?_
  refine j_aloadN 14 cx 1 dX5_copy_14 rfl ?_
  refine j_ifnullN 16 cx 24 dX5_copy_16 (by decide) ?_
  refine j_aload_n 24 cx 2 dX5_copy_24 rfl ?_
  refine j_ldc 25 cx (v := -1000000001) (List.mem_of_getElem? (i := 1) rfl) dX5_copy_25 ?_
  refine j_callV_i 27 cx 1 [0, 1] [.int (fcode 0)] (fun _ => wXO o ax (sP S) ++ ([((ax 7), .inl (gI G, 7, .inl (upd (sF S) 0 ((sF S) 0 + 1))))] ++ [((ax 6), .inl (gS G, 4, .inr (.inr (.inr (.inr (fun j => some (sh j)))))))])) (c_X5_finding (kl K) G o ax (sP S) (sF S) 0 (by decide)) gX5_copy_X5_finding rfl rfl rfl ⟨rfl, by decide, by decide, rfl⟩ ⟨Nat.le_of_ble_eq_true rfl, Nat.le_of_ble_eq_true rfl⟩ ⟨Nat.zero_le _, Nat.zero_le _⟩ rfl (by decide) (ci := 4) 0 rfl rfl rfl rfl rfl (Nat.le_of_ble_eq_true rfl) dX5_copy_27 (fun _ => rfl) (fun zu3 zk3 => ?_)
  refine j_top (fcode 0) rfl ?_
  have ze : (sp_copy s a t b n S) = bad S 0 := by unfold sp_copy; rw [if_neg (fun q => by have h9 := q.1; rw [hv] at h9; cases h9)]
  exact fin () _ _ _ _ dX5_copy_30 rfl (by rw [ze] <;> rfl) (by rw [ze] <;> rfl) trivial
set_option maxRecDepth 100000 in
set_option maxHeartbeats 4000000 in
theorem c_X5_copy_tf (l : Launch) (G : pG) (o : Nat) (ax : Nat → Nat) (sh : Nat → Nat) (S : St) (k : Nat) (hk : k < 4) (t : Int32) (hv2 : inI t 0 3 = false) (a b n : Int32) : KI l G yX5_copy wsX5_copy ({ frames := 2, cells := 0, slots := 0, locals := 43 } : Room) [.ref o, .int (nI k), .int a, .int t, .int b, .int n] (wXO o ax (sP S) ++ ([((ax 7), .inl (gI G, 7, .inl (sF S)))] ++ [((ax 6), .inl (gS G, 4, .inr (.inr (.inr (.inr (fun j => some (sh j)))))))])) (S := Unit) (fun _ => True) (fun u => (sp_copy (nI k) a t b n S).1) (fun u => wXO o ax (sP S) ++ ([((ax 7), .inl (gI G, 7, .inl (sF (sp_copy (nI k) a t b n S).2)))] ++ [((ax 6), .inl (gS G, 4, .inr (.inr (.inr (.inr (fun j => some (sh j)))))))])) := by
  refine ki_of [(0, .ref o), (1, .int (nI k)), (2, .int a), (3, .int t), (4, .int b), (5, .int n)] (own := RX5) (cc := cX5_copy) (nL := 8) (by decide +kernel) rfl rfl (Nat.le_of_ble_eq_true rfl) rfl (fun _ => rfl) (fun K cx fin => ?_)
  refine j_aload_n 0 cx 0 dX5_copy_0 rfl ?_
  refine j_iload_n 1 cx 1 dX5_copy_1 rfl ?_
  refine j_callV_q 2 cx 1 [0, 2] [.int (nI k)] (fun _ => wXO o ax (sP S) ++ ([((ax 7), .inl (gI G, 7, .inl (sF S)))] ++ [((ax 6), .inl (gS G, 4, .inr (.inr (.inr (.inr (fun j => some (sh j)))))))])) (c_X5_sheetAt_t (kl K) G o ax (sP S) sh k hk) gX5_copy_X5_sheetAt rfl rfl rfl ⟨rfl, by decide, by decide, rfl⟩ ⟨Nat.le_of_ble_eq_true rfl, Nat.le_of_ble_eq_true rfl⟩ ⟨Nat.zero_le _, Nat.zero_le _⟩ rfl (by decide) (ci := 4) 0 rfl rfl rfl rfl rfl (Nat.le_of_ble_eq_true rfl) dX5_copy_2 (fun _ => rfl) (fun zu1 zk1 => ?_)
  refine j_st (st' := [.ref ((sh k))]) rfl ?_
  refine j_astore 5 cx [(6, .ref ((sh k))), (0, .ref o), (1, .int (nI k)), (2, .int a), (3, .int t), (4, .int b), (5, .int n)] dX5_copy_5 (by decide) rfl ?_
  refine j_aload_n 7 cx 1 dX5_copy_7 rfl ?_
  refine j_iload_n 8 cx 4 dX5_copy_8 rfl ?_
  refine j_callV_q 9 cx 1 [0, 2] [.int t] (fun _ => wXO o ax (sP S) ++ ([((ax 7), .inl (gI G, 7, .inl (sF S)))] ++ [((ax 6), .inl (gS G, 4, .inr (.inr (.inr (.inr (fun j => some (sh j)))))))])) (c_X5_sheetAt_f (kl K) G o ax (sP S) sh t hv2) gX5_copy_X5_sheetAt rfl rfl rfl ⟨rfl, by decide, by decide, rfl⟩ ⟨Nat.le_of_ble_eq_true rfl, Nat.le_of_ble_eq_true rfl⟩ ⟨Nat.zero_le _, Nat.zero_le _⟩ rfl (by decide) (ci := 4) 0 rfl rfl rfl rfl rfl (Nat.le_of_ble_eq_true rfl) dX5_copy_9 (fun _ => rfl) (fun zu2 zk2 => ?_)
  refine j_st (st' := [.null]) rfl ?_
  refine j_astoreN 12 cx [(7, .null), (6, .ref ((sh k))), (0, .ref o), (1, .int (nI k)), (2, .int a), (3, .int t), (4, .int b), (5, .int n)] dX5_copy_12 (by decide) rfl ?_
  refine j_aload 14 cx 1 dX5_copy_14 rfl ?_
  refine j_ifnull 16 cx dX5_copy_16 ?_
  refine j_aloadN 19 cx 0 dX5_copy_19 rfl ?_
  refine j_ifnonnullN 21 cx dX5_copy_21 ?_
  refine j_aload_n 24 cx 2 dX5_copy_24 rfl ?_
  refine j_ldc 25 cx (v := -1000000001) (List.mem_of_getElem? (i := 1) rfl) dX5_copy_25 ?_
  refine j_callV_i 27 cx 1 [0, 1] [.int (fcode 0)] (fun _ => wXO o ax (sP S) ++ ([((ax 7), .inl (gI G, 7, .inl (upd (sF S) 0 ((sF S) 0 + 1))))] ++ [((ax 6), .inl (gS G, 4, .inr (.inr (.inr (.inr (fun j => some (sh j)))))))])) (c_X5_finding (kl K) G o ax (sP S) (sF S) 0 (by decide)) gX5_copy_X5_finding rfl rfl rfl ⟨rfl, by decide, by decide, rfl⟩ ⟨Nat.le_of_ble_eq_true rfl, Nat.le_of_ble_eq_true rfl⟩ ⟨Nat.zero_le _, Nat.zero_le _⟩ rfl (by decide) (ci := 4) 0 rfl rfl rfl rfl rfl (Nat.le_of_ble_eq_true rfl) dX5_copy_27 (fun _ => rfl) (fun zu3 zk3 => ?_)
  refine j_top (fcode 0) rfl ?_
  have ze : (sp_copy (nI k) a t b n S) = bad S 0 := by unfold sp_copy; rw [if_neg (fun q => by have h9 := q.2; rw [hv2] at h9; cases h9)]
  exact fin () _ _ _ _ dX5_copy_30 rfl (by rw [ze] <;> rfl) (by rw [ze] <;> rfl) trivial
set_option maxRecDepth 100000 in
set_option maxHeartbeats 4000000 in
theorem c_X5_copy_ft (l : Launch) (G : pG) (o : Nat) (ax : Nat → Nat) (sh : Nat → Nat) (S : St) (k : Nat) (hk : k < 4) (s : Int32) (hv : inI s 0 3 = false) (a b n : Int32) : KI l G yX5_copy wsX5_copy ({ frames := 2, cells := 0, slots := 0, locals := 43 } : Room) [.ref o, .int s, .int a, .int (nI k), .int b, .int n] (wXO o ax (sP S) ++ ([((ax 7), .inl (gI G, 7, .inl (sF S)))] ++ [((ax 6), .inl (gS G, 4, .inr (.inr (.inr (.inr (fun j => some (sh j)))))))])) (S := Unit) (fun _ => True) (fun u => (sp_copy s a (nI k) b n S).1) (fun u => wXO o ax (sP S) ++ ([((ax 7), .inl (gI G, 7, .inl (sF (sp_copy s a (nI k) b n S).2)))] ++ [((ax 6), .inl (gS G, 4, .inr (.inr (.inr (.inr (fun j => some (sh j)))))))])) := by
  refine ki_of [(0, .ref o), (1, .int s), (2, .int a), (3, .int (nI k)), (4, .int b), (5, .int n)] (own := RX5) (cc := cX5_copy) (nL := 8) (by decide +kernel) rfl rfl (Nat.le_of_ble_eq_true rfl) rfl (fun _ => rfl) (fun K cx fin => ?_)
  refine j_aload_n 0 cx 0 dX5_copy_0 rfl ?_
  refine j_iload_n 1 cx 1 dX5_copy_1 rfl ?_
  refine j_callV_q 2 cx 1 [0, 2] [.int s] (fun _ => wXO o ax (sP S) ++ ([((ax 7), .inl (gI G, 7, .inl (sF S)))] ++ [((ax 6), .inl (gS G, 4, .inr (.inr (.inr (.inr (fun j => some (sh j)))))))])) (c_X5_sheetAt_f (kl K) G o ax (sP S) sh s hv) gX5_copy_X5_sheetAt rfl rfl rfl ⟨rfl, by decide, by decide, rfl⟩ ⟨Nat.le_of_ble_eq_true rfl, Nat.le_of_ble_eq_true rfl⟩ ⟨Nat.zero_le _, Nat.zero_le _⟩ rfl (by decide) (ci := 4) 0 rfl rfl rfl rfl rfl (Nat.le_of_ble_eq_true rfl) dX5_copy_2 (fun _ => rfl) (fun zu1 zk1 => ?_)
  refine j_st (st' := [.null]) rfl ?_
  refine j_astoreN 5 cx [(6, .null), (0, .ref o), (1, .int s), (2, .int a), (3, .int (nI k)), (4, .int b), (5, .int n)] dX5_copy_5 (by decide) rfl ?_
  refine j_aload_n 7 cx 1 dX5_copy_7 rfl ?_
  refine j_iload_n 8 cx 4 dX5_copy_8 rfl ?_
  refine j_callV_q 9 cx 1 [0, 2] [.int (nI k)] (fun _ => wXO o ax (sP S) ++ ([((ax 7), .inl (gI G, 7, .inl (sF S)))] ++ [((ax 6), .inl (gS G, 4, .inr (.inr (.inr (.inr (fun j => some (sh j)))))))])) (c_X5_sheetAt_t (kl K) G o ax (sP S) sh k hk) gX5_copy_X5_sheetAt rfl rfl rfl ⟨rfl, by decide, by decide, rfl⟩ ⟨Nat.le_of_ble_eq_true rfl, Nat.le_of_ble_eq_true rfl⟩ ⟨Nat.zero_le _, Nat.zero_le _⟩ rfl (by decide) (ci := 4) 0 rfl rfl rfl rfl rfl (Nat.le_of_ble_eq_true rfl) dX5_copy_9 (fun _ => rfl) (fun zu2 zk2 => ?_)
  refine j_st (st' := [.ref ((sh k))]) rfl ?_
  refine j_astore 12 cx [(7, .ref ((sh k))), (6, .null), (0, .ref o), (1, .int s), (2, .int a), (3, .int (nI k)), (4, .int b), (5, .int n)] dX5_copy_12 (by decide) rfl ?_
  refine j_aloadN 14 cx 1 dX5_copy_14 rfl ?_
  refine j_ifnullN 16 cx 24 dX5_copy_16 (by decide) ?_
  refine j_aload_n 24 cx 2 dX5_copy_24 rfl ?_
  refine j_ldc 25 cx (v := -1000000001) (List.mem_of_getElem? (i := 1) rfl) dX5_copy_25 ?_
  refine j_callV_i 27 cx 1 [0, 1] [.int (fcode 0)] (fun _ => wXO o ax (sP S) ++ ([((ax 7), .inl (gI G, 7, .inl (upd (sF S) 0 ((sF S) 0 + 1))))] ++ [((ax 6), .inl (gS G, 4, .inr (.inr (.inr (.inr (fun j => some (sh j)))))))])) (c_X5_finding (kl K) G o ax (sP S) (sF S) 0 (by decide)) gX5_copy_X5_finding rfl rfl rfl ⟨rfl, by decide, by decide, rfl⟩ ⟨Nat.le_of_ble_eq_true rfl, Nat.le_of_ble_eq_true rfl⟩ ⟨Nat.zero_le _, Nat.zero_le _⟩ rfl (by decide) (ci := 4) 0 rfl rfl rfl rfl rfl (Nat.le_of_ble_eq_true rfl) dX5_copy_27 (fun _ => rfl) (fun zu3 zk3 => ?_)
  refine j_top (fcode 0) rfl ?_
  have ze : (sp_copy s a (nI k) b n S) = bad S 0 := by unfold sp_copy; rw [if_neg (fun q => by have h9 := q.1; rw [hv] at h9; cases h9)]
  exact fin () _ _ _ _ dX5_copy_30 rfl (by rw [ze] <;> rfl) (by rw [ze] <;> rfl) trivial
