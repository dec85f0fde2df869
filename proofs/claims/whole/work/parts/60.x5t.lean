set_option maxRecDepth 100000 in
set_option maxHeartbeats 4000000 in
theorem c_X5_lays_t (l : Launch) (G : pG) (o : Nat) (ax : Nat → Nat) (qh : Nat → Nat) (sh nh : Nat → Nat) (k : Nat) (hk : k < 4) (S : St) (hz : sZ S k ≤ 40)  (hI : Inv (sN S))  : KI l G yX5_lays wsX5_lays ({ frames := 2, cells := 0, slots := 0, locals := 43 } : Room) [.ref o, .int (nI k)] (wXO o ax (sP S) ++ ([((ax 7), .inl (gI G, 7, .inl (sF S)))] ++ ([((ax 6), .inl (gS G, 4, .inr (.inr (.inr (.inr (fun j => some (sh j)))))))] ++ (wN G (ax 1) qh (sN S) ++ (wSH (sh k) (nh k) (sB S k) (nI (sZ S k)) ++ [((nh k), .inl (gJ G, 40, .inr (.inl (sC S k))))]))))) (S := Unit) (fun _ => True) (fun u => (sp_lays (nI k) S).1) (fun u => wXO o ax (sP S) ++ ([((ax 7), .inl (gI G, 7, .inl (sF (sp_lays (nI k) S).2)))] ++ ([((ax 6), .inl (gS G, 4, .inr (.inr (.inr (.inr (fun j => some (sh j)))))))] ++ (wN G (ax 1) qh (sN (sp_lays (nI k) S).2) ++ (wSH (sh k) (nh k) (sB (sp_lays (nI k) S).2 k) (nI (sZ (sp_lays (nI k) S).2 k)) ++ [((nh k), .inl (gJ G, 40, .inr (.inl (sC (sp_lays (nI k) S).2 k))))]))))) := by
  have h8 := hI.sz8
  obtain ⟨e, he⟩ : ∃ e, e = min (sZ S k) (szN (sN S)) := ⟨_, rfl⟩
  have he1 : e ≤ 8 := he ▸ Nat.le_trans (Nat.min_le_right _ _) h8
  have he2 : e ≤ 40 := by omega
  refine ki_of [(0, .ref o), (1, .int (nI k))] (own := RX5) (cc := cX5_lays) (nL := 8) (by decide +kernel) rfl rfl (Nat.le_of_ble_eq_true rfl) rfl (fun _ => rfl) (fun K cx fin => ?_)
  refine j_aload_n 0 cx 0 dX5_lays_0 rfl ?_
  refine j_iload_n 1 cx 1 dX5_lays_1 rfl ?_
  refine j_callV_q 2 cx 1 [0, 2] [.int (nI k)] (fun _ => wXO o ax (sP S) ++ ([((ax 7), .inl (gI G, 7, .inl (sF S)))] ++ ([((ax 6), .inl (gS G, 4, .inr (.inr (.inr (.inr (fun j => some (sh j)))))))] ++ (wN G (ax 1) qh (sN S) ++ (wSH (sh k) (nh k) (sB S k) (nI (sZ S k)) ++ [((nh k), .inl (gJ G, 40, .inr (.inl (sC S k))))]))))) (c_X5_sheetAt_t (kl K) G o ax (sP S) sh k hk) gX5_lays_X5_sheetAt rfl rfl rfl ⟨rfl, by decide, by decide, rfl⟩ ⟨Nat.le_of_ble_eq_true rfl, Nat.le_of_ble_eq_true rfl⟩ ⟨Nat.zero_le _, Nat.zero_le _⟩ rfl (by decide) (ci := 4) 0 rfl rfl rfl rfl rfl (Nat.le_of_ble_eq_true rfl) dX5_lays_2 (fun _ => rfl) (fun zu1 zk1 => ?_)
  refine j_st (st' := [.ref ((sh k))]) rfl ?_
  refine j_astore_n 5 cx [(2, .ref ((sh k))), (0, .ref o), (1, .int (nI k))] dX5_lays_5 (by decide) rfl ?_
  refine j_aload_n 6 cx 0 dX5_lays_6 rfl ?_
  refine j_ifnonnull 7 cx 17 dX5_lays_7 (by decide) ?_
  refine j_aload_n 17 cx 0 dX5_lays_17 rfl ?_
  refine j_callV_i 18 cx 0 [10] [] (fun _ => wXO o ax (sP S) ++ ([((ax 7), .inl (gI G, 7, .inl (sF S)))] ++ ([((ax 6), .inl (gS G, 4, .inr (.inr (.inr (.inr (fun j => some (sh j)))))))] ++ (wN G (ax 1) qh (sN S) ++ (wSH (sh k) (nh k) (sB S k) (nI (sZ S k)) ++ [((nh k), .inl (gJ G, 40, .inr (.inl (sC S k))))]))))) (c_X3_isMissing (kl K) G (sh k) (nh k) (sB S k) (nI (sZ S k))) gX5_lays_X3_isMissing rfl rfl rfl ⟨rfl, by decide, by decide, rfl⟩ ⟨Nat.le_of_ble_eq_true rfl, Nat.le_of_ble_eq_true rfl⟩ ⟨Nat.zero_le _, Nat.zero_le _⟩ rfl (by decide) (ci := 2) 0 rfl rfl rfl rfl rfl (Nat.le_of_ble_eq_true rfl) dX5_lays_18 (fun _ => rfl) (fun zu2 zk2 => ?_)
  refine j_top (bI (decide ((sB S k) = 0))) rfl ?_
  refine j_ifB_eq 21 cx 31 dX5_lays_21 (by decide) (fun zc1 => ?_) (fun zc1 => ?_)
  · skip
    refine j_iconst 31 cx 0 dX5_lays_31 (by decide) ?_
    refine j_istore_n 32 cx [(3, .int 0), (2, .ref ((sh k))), (0, .ref o), (1, .int (nI k))] dX5_lays_32 (by decide) rfl ?_
    refine j_aload_n 33 cx 1 dX5_lays_33 rfl ?_
    refine j_get 34 cx 10 2 (T := TX3) (v := .int (nI (sZ S k))) (fun _ h => List.mem_cons_of_mem _ (List.mem_append_left _ (List.mem_append_left _ (List.mem_append_right _ (h))))) (List.mem_of_getElem? (i := 3) rfl) (ci := 2) rfl (by decide) rfl rfl rfl dX5_lays_34 ?_
    refine j_aload_n 37 cx 2 dX5_lays_37 rfl ?_
    refine j_get 38 cx 0 0 (T := TX5) (v := .ref ((ax 1))) (fun _ h => List.mem_cons_of_mem _ (List.mem_append_left _ (List.mem_append_right _ (h)))) (List.mem_of_getElem? (i := 4) rfl) (ci := 4) rfl (by decide) rfl rfl rfl dX5_lays_38 ?_
    refine j_get 41 cx 3 3 (T := TX1) (v := .int ((sN S) 0 3)) (fun _ h => List.mem_cons_of_mem _ (List.mem_append_right _ (h))) (List.mem_of_getElem? (i := 5) rfl) (ci := 0) rfl (by decide) rfl rfl rfl dX5_lays_41 ?_
    refine j_top (nI (szN (sN S))) hI.sz ?_
    refine j_min 44 cx (List.mem_of_getElem? (i := 6) rfl) (List.mem_of_getElem? (i := 7) rfl) (List.mem_of_getElem? (i := 8) rfl) (List.mem_of_getElem? (i := 9) rfl) (by decide) (Nat.le_of_ble_eq_true rfl) (Nat.zero_le _) (Nat.zero_le _) dX5_lays_44 ?_
    refine j_top (mnI (nI (sZ S k)) (nI (szN (sN S)))) rfl ?_
    refine j_top (nI e) ((mnI_n (by omega) (by omega)).trans (congrArg nI he.symm)) ?_
    refine j_istore 47 cx [(4, .int (nI e)), (3, .int 0), (2, .ref ((sh k))), (0, .ref o), (1, .int (nI k))] dX5_lays_47 (by decide) rfl ?_
    refine j_iconst 49 cx 0 dX5_lays_49 (by decide) ?_
    refine j_istore 50 cx [(5, .int 0), (4, .int (nI e)), (3, .int 0), (2, .ref ((sh k))), (0, .ref o), (1, .int (nI k))] dX5_lays_50 (by decide) rfl ?_
    have L52 : ∀ d : Nat, ∀ (j : Nat), (j + d = e) → JJ G K 0 0 (wXO o ax (sP S) ++ ([((ax 7), .inl (gI G, 7, .inl (sF S)))] ++ ([((ax 6), .inl (gS G, 4, .inr (.inr (.inr (.inr (fun j => some (sh j)))))))] ++ (wN G (ax 1) qh (layF (sC S k) (sN S) j).2 ++ (wSH (sh k) (nh k) (sB S k) (nI (sZ S k)) ++ [((nh k), .inl (gJ G, 40, .inr (.inl (sC S k))))]))))) [(5, .int (nI j)), (4, .int (nI e)), (3, .int (nI ((layF (sC S k) (sN S) j).1))), (2, .ref ((sh k))), (0, .ref o)] 52 [] := by
      intro d
      induction d with
      | zero =>
        intro j hj
        refine j_iload 52 cx 0 dX5_lays_52 rfl ?_
        refine j_iload 54 cx 1 dX5_lays_54 rfl ?_
        refine j_icmp_ge_T 56 cx 106 dX5_lays_56 (by decide) (nI_le (by omega) (by omega)) ?_
        refine j_iload_n 106 cx 2 dX5_lays_106 rfl ?_
        have ze : (sp_lays (nI k) S) = (nI ((layF (sC S k) (sN S) j).1), stN S (layF (sC S k) (sN S) j).2) := by unfold sp_lays; rw [if_pos (s_in hk), show pN (nI k) = k from nI_clamp (by omega), if_neg (of_decide_eq_false zc1), ← he, show e = j from by omega]
        exact fin () _ _ _ _ dX5_lays_107 rfl (by rw [ze] <;> rfl) (by rw [ze] <;> first | rfl | (simp only [stB, sB, sZ, sC, sF, sN, sP, uA_s] <;> rfl)) trivial
      | succ d ih52 =>
        intro j hj
        refine j_iload 52 cx 0 dX5_lays_52 rfl ?_
        refine j_iload 54 cx 1 dX5_lays_54 rfl ?_
        refine j_icmp_ge_F 56 cx 106 dX5_lays_56 (by decide) (nI_ge (by omega) (by omega)) ?_
        refine j_aload_n 59 cx 3 dX5_lays_59 rfl ?_
        refine j_get 60 cx 10 0 (T := TX3) (v := .ref ((nh k))) (fun _ h => List.mem_cons_of_mem _ (List.mem_append_left _ (List.mem_append_left _ (List.mem_append_right _ (h))))) (List.mem_of_getElem? (i := 10) rfl) (ci := 2) rfl (by decide) rfl rfl rfl dX5_lays_60 ?_
        refine j_iload 63 cx 0 dX5_lays_63 rfl ?_
        refine j_lald 65 cx 11 j rfl rfl (by omega) (by decide) dX5_lays_65 ?_
        refine j_lstore 66 cx [(6, .long ((sC S k) j)), (5, .int (nI j)), (4, .int (nI e)), (3, .int (nI ((layF (sC S k) (sN S) j).1))), (2, .ref ((sh k))), (0, .ref o)] dX5_lays_66 (by decide) rfl ?_
        refine j_lload 68 cx 0 dX5_lays_68 rfl ?_
        refine j_lconst 70 cx 0 dX5_lays_70 (by decide) ?_
        refine j_lcmp 71 cx dX5_lays_71 ?_
        refine j_if_lt 72 cx 100 dX5_lays_72 (by decide) (fun zc2 => ?_) (fun zc2 => ?_)
        · skip
          refine j_iinc 100 cx [(5, .int (nI (j + 1))), (6, .long ((sC S k) j)), (4, .int (nI e)), (3, .int (nI ((layF (sC S k) (sN S) j).1))), (2, .ref ((sh k))), (0, .ref o)] 1 (nI (j + 1)) dX5_lays_100 rfl (iinc1 j) (by decide) rfl ?_
          refine j_goto 103 cx 52 dX5_lays_103 (by decide) ?_
          refine j_lv [0, 2, 3, 4, 5] rfl ?_
          have h9 := ih52 (j + 1) (by omega)
          rw [layF_f (inL_lo zc2)] at h9
          exact h9
        · skip
          refine j_lload 75 cx 0 dX5_lays_75 rfl ?_
          refine j_ldc2 77 cx (v := 9999) (List.mem_of_getElem? (i := 11) rfl) dX5_lays_77 ?_
          refine j_lcmp 80 cx dX5_lays_80 ?_
          refine j_if_gt 81 cx 100 dX5_lays_81 (by decide) (fun zc3 => ?_) (fun zc3 => ?_)
          · skip
            refine j_iinc 100 cx [(5, .int (nI (j + 1))), (6, .long ((sC S k) j)), (4, .int (nI e)), (3, .int (nI ((layF (sC S k) (sN S) j).1))), (2, .ref ((sh k))), (0, .ref o)] 1 (nI (j + 1)) dX5_lays_100 rfl (iinc1 j) (by decide) rfl ?_
            refine j_goto 103 cx 52 dX5_lays_103 (by decide) ?_
            refine j_lv [0, 2, 3, 4, 5] rfl ?_
            have h9 := ih52 (j + 1) (by omega)
            rw [layF_f (inL_hi zc3)] at h9
            exact h9
          · skip
            refine j_aload_n 84 cx 5 dX5_lays_84 rfl ?_
            refine j_get 85 cx 0 0 (T := TX5) (v := .ref ((ax 1))) (fun _ h => List.mem_cons_of_mem _ (List.mem_append_left _ (List.mem_append_right _ (h)))) (List.mem_of_getElem? (i := 4) rfl) (ci := 4) rfl (by decide) rfl rfl rfl dX5_lays_85 ?_
            refine j_get 88 cx 3 8 (T := TX1) (v := .ref (qh 5)) (fun _ h => List.mem_cons_of_mem _ (List.mem_append_right _ (h))) (List.mem_of_getElem? (i := 12) rfl) (ci := 0) rfl (by decide) rfl rfl rfl dX5_lays_88 ?_
            refine j_iload 91 cx 1 dX5_lays_91 rfl ?_
            refine j_lload 93 cx 0 dX5_lays_93 rfl ?_
            refine j_l2i 95 cx dX5_lays_95 ?_
            refine j_iast 96 cx 8 j (wXO o ax (sP S) ++ ([((ax 7), .inl (gI G, 7, .inl (sF S)))] ++ ([((ax 6), .inl (gS G, 4, .inr (.inr (.inr (.inr (fun j => some (sh j)))))))] ++ (wN G (ax 1) qh (up2 (layF (sC S k) (sN S) j).2 5 j (((sC S k) j).toInt32)) ++ (wSH (sh k) (nh k) (sB S k) (nI (sZ S k)) ++ [((nh k), .inl (gJ G, 40, .inr (.inl (sC S k))))]))))) rfl rfl (by omega) (by decide) rfl dX5_lays_96 ?_
            refine j_iinc 97 cx [(3, .int (nI (((layF (sC S k) (sN S) j).1) + 1))), (6, .long ((sC S k) j)), (5, .int (nI j)), (4, .int (nI e)), (2, .ref ((sh k))), (0, .ref o)] 3 (nI (((layF (sC S k) (sN S) j).1) + 1)) dX5_lays_97 rfl (iinc1 ((layF (sC S k) (sN S) j).1)) (by decide) rfl ?_
            refine j_iinc 100 cx [(5, .int (nI (j + 1))), (3, .int (nI (((layF (sC S k) (sN S) j).1) + 1))), (6, .long ((sC S k) j)), (4, .int (nI e)), (2, .ref ((sh k))), (0, .ref o)] 2 (nI (j + 1)) dX5_lays_100 rfl (iinc1 j) (by decide) rfl ?_
            refine j_goto 103 cx 52 dX5_lays_103 (by decide) ?_
            refine j_lv [0, 3, 1, 4, 5] rfl ?_
            have h9 := ih52 (j + 1) (by omega)
            rw [layF_t (inL_in zc2 zc3)] at h9
            exact h9
    refine j_lv [0, 1, 2, 3, 4] rfl ?_
    exact L52 e 0 (by omega)
  · skip
    refine j_aload_n 24 cx 1 dX5_lays_24 rfl ?_
    refine j_ldc 25 cx (v := -1000000006) (List.mem_of_getElem? (i := 2) rfl) dX5_lays_25 ?_
    refine j_callV_i 27 cx 1 [0, 1] [.int (fcode 5)] (fun _ => wXO o ax (sP S) ++ ([((ax 7), .inl (gI G, 7, .inl (upd (sF S) 5 ((sF S) 5 + 1))))] ++ ([((ax 6), .inl (gS G, 4, .inr (.inr (.inr (.inr (fun j => some (sh j)))))))] ++ (wN G (ax 1) qh (sN S) ++ (wSH (sh k) (nh k) (sB S k) (nI (sZ S k)) ++ [((nh k), .inl (gJ G, 40, .inr (.inl (sC S k))))]))))) (c_X5_finding (kl K) G o ax (sP S) (sF S) 5 (by decide)) gX5_lays_X5_finding rfl rfl rfl ⟨rfl, by decide, by decide, rfl⟩ ⟨Nat.le_of_ble_eq_true rfl, Nat.le_of_ble_eq_true rfl⟩ ⟨Nat.zero_le _, Nat.zero_le _⟩ rfl (by decide) (ci := 4) 0 rfl rfl rfl rfl rfl (Nat.le_of_ble_eq_true rfl) dX5_lays_27 (fun _ => rfl) (fun zu3 zk3 => ?_)
    refine j_top (fcode 5) rfl ?_
    have ze : (sp_lays (nI k) S) = bad S 5 := by unfold sp_lays; simp [s_in hk, show pN (nI k) = k from nI_clamp (by omega), of_decide_eq_true zc1]
    exact fin () _ _ _ _ dX5_lays_30 rfl (by rw [ze] <;> rfl) (by rw [ze] <;> first | rfl | (simp only [stB, sB, sZ, sC, sF, sN, sP, uA_s] <;> rfl)) trivial
set_option maxRecDepth 100000 in
set_option maxHeartbeats 4000000 in
theorem c_X5_book_t (l : Launch) (G : pG) (o : Nat) (ax : Nat → Nat) (qh qt : Nat → Nat) (sh nh : Nat → Nat) (k : Nat) (hk : k < 4) (S : St) (hz : sZ S k ≤ 40) (τ : Nu) (hI : Inv (sN S)) (hD : dyN (sN S) ≤ 9999) : KI l G yX5_book wsX5_book ({ frames := 5, cells := 0, slots := 0, locals := 118 } : Room) [.ref o, .int (nI k)] (wXO o ax (sP S) ++ ([((ax 7), .inl (gI G, 7, .inl (sF S)))] ++ ([((ax 6), .inl (gS G, 4, .inr (.inr (.inr (.inr (fun j => some (sh j)))))))] ++ (wN G (ax 1) qh (sN S) ++ (wN G (ax 2) qt τ ++ (wSH (sh k) (nh k) (sB S k) (nI (sZ S k)) ++ [((nh k), .inl (gJ G, 40, .inr (.inl (sC S k))))])))))) (S := Nu) (fun _ => True) (fun u => (sp_book (nI k) S).1) (fun u => wXO o ax (sP S) ++ ([((ax 7), .inl (gI G, 7, .inl (sF (sp_book (nI k) S).2)))] ++ ([((ax 6), .inl (gS G, 4, .inr (.inr (.inr (.inr (fun j => some (sh j)))))))] ++ (wN G (ax 1) qh (sN (sp_book (nI k) S).2) ++ (wN G (ax 2) qt u ++ (wSH (sh k) (nh k) (sB (sp_book (nI k) S).2 k) (nI (sZ (sp_book (nI k) S).2 k)) ++ [((nh k), .inl (gJ G, 40, .inr (.inl (sC (sp_book (nI k) S).2 k))))])))))) := by
  refine ki_of [(0, .ref o), (1, .int (nI k))] (own := RX5) (cc := cX5_book) (nL := 5) (by decide +kernel) rfl rfl (Nat.le_of_ble_eq_true rfl) rfl (fun _ => rfl) (fun K cx fin => ?_)
  refine j_aload_n 0 cx 0 dX5_book_0 rfl ?_
  refine j_iload_n 1 cx 1 dX5_book_1 rfl ?_
  refine j_callV_q 2 cx 1 [0, 2] [.int (nI k)] (fun _ => wXO o ax (sP S) ++ ([((ax 7), .inl (gI G, 7, .inl (sF S)))] ++ ([((ax 6), .inl (gS G, 4, .inr (.inr (.inr (.inr (fun j => some (sh j)))))))] ++ (wN G (ax 1) qh (sN S) ++ (wN G (ax 2) qt τ ++ (wSH (sh k) (nh k) (sB S k) (nI (sZ S k)) ++ [((nh k), .inl (gJ G, 40, .inr (.inl (sC S k))))])))))) (c_X5_sheetAt_t (kl K) G o ax (sP S) sh k hk) gX5_book_X5_sheetAt rfl rfl rfl ⟨rfl, by decide, by decide, rfl⟩ ⟨Nat.le_of_ble_eq_true rfl, Nat.le_of_ble_eq_true rfl⟩ ⟨Nat.zero_le _, Nat.zero_le _⟩ rfl (by decide) (ci := 4) 0 rfl rfl rfl rfl rfl (Nat.le_of_ble_eq_true rfl) dX5_book_2 (fun _ => rfl) (fun zu1 zk1 => ?_)
  refine j_st (st' := [.ref ((sh k))]) rfl ?_
  refine j_astore_n 5 cx [(2, .ref ((sh k))), (0, .ref o), (1, .int (nI k))] dX5_book_5 (by decide) rfl ?_
  refine j_aload_n 6 cx 0 dX5_book_6 rfl ?_
  refine j_ifnonnull 7 cx 17 dX5_book_7 (by decide) ?_
  refine j_aload_n 17 cx 0 dX5_book_17 rfl ?_
  refine j_callV_i 18 cx 0 [17] [] (fun _ => wXO o ax (sP S) ++ ([((ax 7), .inl (gI G, 7, .inl (sF S)))] ++ ([((ax 6), .inl (gS G, 4, .inr (.inr (.inr (.inr (fun j => some (sh j)))))))] ++ (wN G (ax 1) qh (sN S) ++ (wN G (ax 2) qt τ ++ (wSH (sh k) (nh k) (sB S k) (nI (sZ S k)) ++ [((nh k), .inl (gJ G, 40, .inr (.inl (sC S k))))])))))) (c_X3_isMissing (kl K) G (sh k) (nh k) (sB S k) (nI (sZ S k))) gX5_book_X3_isMissing rfl rfl rfl ⟨rfl, by decide, by decide, rfl⟩ ⟨Nat.le_of_ble_eq_true rfl, Nat.le_of_ble_eq_true rfl⟩ ⟨Nat.zero_le _, Nat.zero_le _⟩ rfl (by decide) (ci := 2) 0 rfl rfl rfl rfl rfl (Nat.le_of_ble_eq_true rfl) dX5_book_18 (fun _ => rfl) (fun zu2 zk2 => ?_)
  refine j_top (bI (decide ((sB S k) = 0))) rfl ?_
  refine j_ifB_eq 21 cx 31 dX5_book_21 (by decide) (fun zc1 => ?_) (fun zc1 => ?_)
  · skip
    refine j_aload_n 31 cx 1 dX5_book_31 rfl ?_
    refine j_callV_q 32 cx 0 [0, 3, 4, 5, 6, 7, 8, 9, 10, 11, 12, 13, 14, 15, 16] [] (fun _ => wXO o ax (sP S) ++ ([((ax 7), .inl (gI G, 7, .inl (sF S)))] ++ ([((ax 6), .inl (gS G, 4, .inr (.inr (.inr (.inr (fun j => some (sh j)))))))] ++ (wN G (ax 1) qh (sN S) ++ (wN G (ax 2) qt (sN S) ++ (wSH (sh k) (nh k) (sB S k) (nI (sZ S k)) ++ [((nh k), .inl (gJ G, 40, .inr (.inl (sC S k))))])))))) (c_X5_rehearsal (kl K) G o ax (sP S) qh qt (sN S) τ) gX5_book_X5_rehearsal rfl rfl rfl ⟨rfl, by decide, by decide, rfl⟩ ⟨Nat.le_of_ble_eq_true rfl, Nat.le_of_ble_eq_true rfl⟩ ⟨Nat.zero_le _, Nat.zero_le _⟩ rfl (by decide) (ci := 4) 0 rfl rfl rfl rfl rfl (Nat.le_of_ble_eq_true rfl) dX5_book_32 (fun _ => rfl) (fun zu3 zk3 => ?_)
    refine j_st (st' := [.ref ((ax 2))]) rfl ?_
    refine j_astore_n 35 cx [(3, .ref ((ax 2))), (2, .ref ((sh k))), (0, .ref o), (1, .int (nI k))] dX5_book_35 (by decide) rfl ?_
    refine j_iconst 36 cx 0 dX5_book_36 (by decide) ?_
    refine j_istore 37 cx [(4, .int 0), (3, .ref ((ax 2))), (2, .ref ((sh k))), (0, .ref o), (1, .int (nI k))] dX5_book_37 (by decide) rfl ?_
    have L39 : ∀ d : Nat, ∀ (j : Nat), (j + d = sZ S k) → JJ G K 0 0 (wXO o ax (sP S) ++ ([((ax 7), .inl (gI G, 7, .inl (sF S)))] ++ ([((ax 6), .inl (gS G, 4, .inr (.inr (.inr (.inr (fun j => some (sh j)))))))] ++ (wN G (ax 1) qh (sN S) ++ (wN G (ax 2) qt (daysF (sN S) j) ++ (wSH (sh k) (nh k) (sB S k) (nI (sZ S k)) ++ [((nh k), .inl (gJ G, 40, .inr (.inl (bookF (sB S k) (sC S k) (sN S) j))))])))))) [(4, .int (nI j)), (3, .ref ((ax 2))), (2, .ref ((sh k))), (0, .ref o)] 39 [] := by
      intro d
      induction d with
      | zero =>
        intro j hj
        refine j_iload 39 cx 0 dX5_book_39 rfl ?_
        refine j_aload_n 41 cx 2 dX5_book_41 rfl ?_
        refine j_get 42 cx 17 2 (T := TX3) (v := .int (nI (sZ S k))) (fun _ h => List.mem_cons_of_mem _ (List.mem_append_left _ (List.mem_append_left _ (List.mem_append_right _ (h))))) (List.mem_of_getElem? (i := 3) rfl) (ci := 2) rfl (by decide) rfl rfl rfl dX5_book_42 ?_
        refine j_icmp_ge_T 45 cx 65 dX5_book_45 (by decide) (nI_le (by omega) (by omega)) ?_
        refine j_aload_n 65 cx 2 dX5_book_65 rfl ?_
        refine j_get 66 cx 17 2 (T := TX3) (v := .int (nI (sZ S k))) (fun _ h => List.mem_cons_of_mem _ (List.mem_append_left _ (List.mem_append_left _ (List.mem_append_right _ (h))))) (List.mem_of_getElem? (i := 3) rfl) (ci := 2) rfl (by decide) rfl rfl rfl dX5_book_66 ?_
        have ze : (sp_book (nI k) S) = (nI (sZ S k), stB S (sB S) (sZ S) (uA (sC S) k (bookF (sB S k) (sC S k) (sN S) j))) := by unfold sp_book; rw [if_pos (s_in hk), show pN (nI k) = k from nI_clamp (by omega), if_neg (of_decide_eq_false zc1), show sZ S k = j from by omega]
        exact fin (daysF (sN S) j) _ _ _ _ dX5_book_69 rfl (by rw [ze] <;> rfl) (by rw [ze] <;> first | rfl | (simp only [stB, sB, sZ, sC, sF, sN, sP, uA_s] <;> rfl)) trivial
      | succ d ih39 =>
        intro j hj
        refine j_iload 39 cx 0 dX5_book_39 rfl ?_
        refine j_aload_n 41 cx 2 dX5_book_41 rfl ?_
        refine j_get 42 cx 17 2 (T := TX3) (v := .int (nI (sZ S k))) (fun _ h => List.mem_cons_of_mem _ (List.mem_append_left _ (List.mem_append_left _ (List.mem_append_right _ (h))))) (List.mem_of_getElem? (i := 3) rfl) (ci := 2) rfl (by decide) rfl rfl rfl dX5_book_42 ?_
        refine j_icmp_ge_F 45 cx 65 dX5_book_45 (by decide) (nI_ge (by omega) (by omega)) ?_
        refine j_aload_n 48 cx 2 dX5_book_48 rfl ?_
        refine j_iload 49 cx 0 dX5_book_49 rfl ?_
        refine j_aload_n 51 cx 1 dX5_book_51 rfl ?_
        refine j_callV_i 52 cx 0 [10, 11, 12, 13, 14, 15, 16] [] (fun _ => wXO o ax (sP S) ++ ([((ax 7), .inl (gI G, 7, .inl (sF S)))] ++ ([((ax 6), .inl (gS G, 4, .inr (.inr (.inr (.inr (fun j => some (sh j)))))))] ++ (wN G (ax 1) qh (sN S) ++ (wN G (ax 2) qt (dayF (daysF (sN S) j)) ++ (wSH (sh k) (nh k) (sB S k) (nI (sZ S k)) ++ [((nh k), .inl (gJ G, 40, .inr (.inl (bookF (sB S k) (sC S k) (sN S) j))))])))))) (c_X1_passDay (kl K) G (ax 2) qt (daysF (sN S) j) (inv_daysF hI j (by have := hD; omega)).1) gX5_book_X1_passDay rfl rfl rfl ⟨rfl, by decide, by decide, rfl⟩ ⟨Nat.le_of_ble_eq_true rfl, Nat.le_of_ble_eq_true rfl⟩ ⟨Nat.zero_le _, Nat.zero_le _⟩ rfl (by decide) (ci := 0) 0 rfl rfl rfl rfl rfl (Nat.le_of_ble_eq_true rfl) dX5_book_52 (fun _ => rfl) (fun zu4 zk4 => ?_)
        refine j_top (oI (loud (daysF (sN S) j))) rfl ?_
        refine j_i2l 55 cx dX5_book_55 ?_
        refine j_callV_v 56 cx 2 [17, 18] [.int (nI j), .long ((oI (loud (daysF (sN S) j))).toInt64)] (fun _ => wXO o ax (sP S) ++ ([((ax 7), .inl (gI G, 7, .inl (sF S)))] ++ ([((ax 6), .inl (gS G, 4, .inr (.inr (.inr (.inr (fun j => some (sh j)))))))] ++ (wN G (ax 1) qh (sN S) ++ (wN G (ax 2) qt (dayF (daysF (sN S) j)) ++ (wSH (sh k) (nh k) (sB S k) (nI (sZ S k)) ++ [((nh k), .inl (gJ G, 40, .inr (.inl (vp_updL (bookF (sB S k) (sC S k) (sN S) j) j (cutF (sB S k) ((oI (loud (daysF (sN S) j))).toInt64))))))])))))) (c_X3_put (kl K) G (sh k) (nh k) (sB S k) (sZ S k) j (bookF (sB S k) (sC S k) (sN S) j) ((oI (loud (daysF (sN S) j))).toInt64) (by omega) (by omega)) gX5_book_X3_put rfl rfl rfl ⟨rfl, by decide, by decide, rfl⟩ ⟨Nat.le_of_ble_eq_true rfl, Nat.le_of_ble_eq_true rfl⟩ ⟨Nat.zero_le _, Nat.zero_le _⟩ rfl (by decide) (ci := 2) 0 rfl rfl rfl rfl rfl (Nat.le_of_ble_eq_true rfl) dX5_book_56 (fun _ => rfl) (fun zu5 zk5 => ?_)
        refine j_iinc 59 cx [(4, .int (nI (j + 1))), (3, .ref ((ax 2))), (2, .ref ((sh k))), (0, .ref o)] 0 (nI (j + 1)) dX5_book_59 rfl (iinc1 j) (by decide) rfl ?_
        refine j_goto 62 cx 39 dX5_book_62 (by decide) ?_
        exact ih39 (j + 1) (by omega)
    refine j_lv [0, 1, 2, 3] rfl ?_
    exact L39 (sZ S k) 0 (by omega)
  · skip
    refine j_aload_n 24 cx 1 dX5_book_24 rfl ?_
    refine j_ldc 25 cx (v := -1000000006) (List.mem_of_getElem? (i := 2) rfl) dX5_book_25 ?_
    refine j_callV_i 27 cx 1 [0, 1] [.int (fcode 5)] (fun _ => wXO o ax (sP S) ++ ([((ax 7), .inl (gI G, 7, .inl (upd (sF S) 5 ((sF S) 5 + 1))))] ++ ([((ax 6), .inl (gS G, 4, .inr (.inr (.inr (.inr (fun j => some (sh j)))))))] ++ (wN G (ax 1) qh (sN S) ++ (wN G (ax 2) qt τ ++ (wSH (sh k) (nh k) (sB S k) (nI (sZ S k)) ++ [((nh k), .inl (gJ G, 40, .inr (.inl (sC S k))))])))))) (c_X5_finding (kl K) G o ax (sP S) (sF S) 5 (by decide)) gX5_book_X5_finding rfl rfl rfl ⟨rfl, by decide, by decide, rfl⟩ ⟨Nat.le_of_ble_eq_true rfl, Nat.le_of_ble_eq_true rfl⟩ ⟨Nat.zero_le _, Nat.zero_le _⟩ rfl (by decide) (ci := 4) 0 rfl rfl rfl rfl rfl (Nat.le_of_ble_eq_true rfl) dX5_book_27 (fun _ => rfl) (fun zu6 zk6 => ?_)
    refine j_top (fcode 5) rfl ?_
    have ze : (sp_book (nI k) S) = bad S 5 := by unfold sp_book; simp [s_in hk, show pN (nI k) = k from nI_clamp (by omega), of_decide_eq_true zc1]
    exact fin τ _ _ _ _ dX5_book_30 rfl (by rw [ze] <;> rfl) (by rw [ze] <;> first | rfl | (simp only [stB, sB, sZ, sC, sF, sN, sP, uA_s] <;> rfl)) trivial
set_option maxRecDepth 100000 in
set_option maxHeartbeats 4000000 in
theorem c_X5_goesAs (l : Launch) (G : pG) (o : Nat) (q : Nat → Nat) (σ : Nu) (a n : Nat) (b : Int32) (z p : Nat) (f : Nat → Int64) (hI : Inv σ) (hp : p < 8) (hz : z ≤ 40) (hn : dyN σ + z < 1000000) : KI l G yX5_goesAs wsX5_goesAs ({ frames := 5, cells := 0, slots := 0, locals := 118 } : Room) [.ref o, .int (nI p), .ref a] (wN G o q σ ++ (wSH a n b (nI z) ++ [(n, .inl (gJ G, 40, .inr (.inl f)))])) (S := Nu) (fun _ => True) (fun u => bI (isBk f p σ z)) (fun u => wN G o q u ++ (wSH a n b (nI z) ++ [(n, .inl (gJ G, 40, .inr (.inl f)))])) := by
  refine ki_of [(0, .ref o), (1, .int (nI p)), (2, .ref a)] (own := RX5) (cc := cX5_goesAs) (nL := 4) (by decide +kernel) rfl rfl (Nat.le_of_ble_eq_true rfl) rfl (fun _ => rfl) (fun K cx fin => ?_)
  refine j_iconst 0 cx 0 dX5_goesAs_0 (by decide) ?_
  refine j_istore_n 1 cx [(3, .int 0), (0, .ref o), (1, .int (nI p)), (2, .ref a)] dX5_goesAs_1 (by decide) rfl ?_
  have L2 : ∀ d : Nat, ∀ (j : Nat), (j + d = z) → (isBk f p σ j = true) → JJ G K 0 0 (wN G o q (daysF σ j) ++ (wSH a n b (nI z) ++ [(n, .inl (gJ G, 40, .inr (.inl f)))])) [(3, .int (nI j)), (2, .ref a), (1, .int (nI p)), (0, .ref o)] 2 [] := by
    intro d
    induction d with
    | zero =>
      intro j hj hB
      refine j_iload_n 2 cx 0 dX5_goesAs_2 rfl ?_
      refine j_aload_n 3 cx 1 dX5_goesAs_3 rfl ?_
      refine j_get 4 cx 7 2 (T := TX3) (v := .int (nI z)) (fun _ h => List.mem_cons_of_mem _ (List.mem_append_left _ (List.mem_append_right _ (h)))) (List.mem_of_getElem? (i := 1) rfl) (ci := 2) rfl (by decide) rfl rfl rfl dX5_goesAs_4 ?_
      refine j_icmp_ge_T 7 cx 40 dX5_goesAs_7 (by decide) (nI_le (by omega) (by omega)) ?_
      refine j_iconst 40 cx 1 dX5_goesAs_40 (by decide) ?_
      exact fin (daysF σ j) _ _ _ _ dX5_goesAs_41 rfl (by rw [show z = j from by omega, hB]; rfl) rfl trivial
    | succ d ih2 =>
      intro j hj hB
      refine j_iload_n 2 cx 0 dX5_goesAs_2 rfl ?_
      refine j_aload_n 3 cx 1 dX5_goesAs_3 rfl ?_
      refine j_get 4 cx 7 2 (T := TX3) (v := .int (nI z)) (fun _ h => List.mem_cons_of_mem _ (List.mem_append_left _ (List.mem_append_right _ (h)))) (List.mem_of_getElem? (i := 1) rfl) (ci := 2) rfl (by decide) rfl rfl rfl dX5_goesAs_4 ?_
      refine j_icmp_ge_F 7 cx 40 dX5_goesAs_7 (by decide) (nI_ge (by omega) (by omega)) ?_
      refine j_aload_n 10 cx 3 dX5_goesAs_10 rfl ?_
      refine j_get 11 cx 0 7 (T := TX1) (v := .ref (q 4)) (fun _ h => List.mem_cons_of_mem _ (List.mem_append_right _ (h))) (List.mem_of_getElem? (i := 2) rfl) (ci := 0) rfl (by decide) rfl rfl rfl dX5_goesAs_11 ?_
      refine j_iload_n 14 cx 2 dX5_goesAs_14 rfl ?_
      refine j_iald 15 cx 4 p rfl rfl (by omega) (by decide) dX5_goesAs_15 ?_
      refine j_i2l 16 cx dX5_goesAs_16 ?_
      refine j_aload_n 17 cx 1 dX5_goesAs_17 rfl ?_
      refine j_get 18 cx 7 0 (T := TX3) (v := .ref n) (fun _ h => List.mem_cons_of_mem _ (List.mem_append_left _ (List.mem_append_right _ (h)))) (List.mem_of_getElem? (i := 3) rfl) (ci := 2) rfl (by decide) rfl rfl rfl dX5_goesAs_18 ?_
      refine j_iload_n 21 cx 0 dX5_goesAs_21 rfl ?_
      refine j_lald 22 cx 8 j rfl rfl (by omega) (by decide) dX5_goesAs_22 ?_
      refine j_lcmp 23 cx dX5_goesAs_23 ?_
      refine j_if_eq 24 cx 29 dX5_goesAs_24 (by decide) (fun zc1 => ?_) (fun zc1 => ?_)
      · skip
        refine j_aload_n 29 cx 3 dX5_goesAs_29 rfl ?_
        refine j_callV_i 30 cx 0 [0, 1, 2, 3, 4, 5, 6] [] (fun _ => wN G o q (dayF (daysF σ j)) ++ (wSH a n b (nI z) ++ [(n, .inl (gJ G, 40, .inr (.inl f)))])) (c_X1_passDay (kl K) G o q (daysF σ j) (inv_daysF hI j (by omega)).1) gX5_goesAs_X1_passDay rfl rfl rfl ⟨rfl, by decide, by decide, rfl⟩ ⟨Nat.le_of_ble_eq_true rfl, Nat.le_of_ble_eq_true rfl⟩ ⟨Nat.zero_le _, Nat.zero_le _⟩ rfl (by decide) (ci := 0) 0 rfl rfl rfl rfl rfl (Nat.le_of_ble_eq_true rfl) dX5_goesAs_30 (fun _ => rfl) (fun zu1 zk1 => ?_)
        refine j_top (oI (loud (daysF σ j))) rfl ?_
        refine j_pop 33 cx dX5_goesAs_33 rfl ?_
        refine j_iinc 34 cx [(3, .int (nI (j + 1))), (2, .ref a), (1, .int (nI p)), (0, .ref o)] 0 (nI (j + 1)) dX5_goesAs_34 rfl (iinc1 j) (by decide) rfl ?_
        refine j_goto 37 cx 2 dX5_goesAs_37 (by decide) ?_
        exact ih2 (j + 1) (by omega) (isBk_s hB ((lg_cmp_eq _ _).mp zc1).symm)
      · skip
        refine j_iconst 27 cx 0 dX5_goesAs_27 (by decide) ?_
        exact fin (daysF σ j) _ _ _ _ dX5_goesAs_28 rfl (by rw [isBk_n (j := j) (fun q => zc1 ((lg_cmp_eq _ _).mpr q.symm)) z (by omega)]; rfl) rfl trivial
  refine j_lv [0, 3, 2, 1] rfl ?_
  exact L2 z 0 (by omega) rfl
set_option maxRecDepth 100000 in
set_option maxHeartbeats 4000000 in
theorem c_X5_read_t (l : Launch) (G : pG) (o : Nat) (ax : Nat → Nat) (qh qt : Nat → Nat) (sh nh : Nat → Nat) (k : Nat) (hk : k < 4) (S : St) (hz : sZ S k ≤ 40) (τ : Nu) (hI : Inv (sN S)) (hD : dyN (sN S) ≤ 9999) (p : Int32) : KI l G yX5_read wsX5_read ({ frames := 6, cells := 0, slots := 0, locals := 141 } : Room) [.ref o, .int (nI k), .int p] (wXO o ax (sP S) ++ ([((ax 7), .inl (gI G, 7, .inl (sF S)))] ++ ([((ax 6), .inl (gS G, 4, .inr (.inr (.inr (.inr (fun j => some (sh j)))))))] ++ (wN G (ax 1) qh (sN S) ++ (wN G (ax 2) qt τ ++ (wSH (sh k) (nh k) (sB S k) (nI (sZ S k)) ++ [((nh k), .inl (gJ G, 40, .inr (.inl (sC S k))))])))))) (S := Nu) (fun _ => True) (fun u => (sp_read (nI k) p S).1) (fun u => wXO o ax (sP S) ++ ([((ax 7), .inl (gI G, 7, .inl (sF (sp_read (nI k) p S).2)))] ++ ([((ax 6), .inl (gS G, 4, .inr (.inr (.inr (.inr (fun j => some (sh j)))))))] ++ (wN G (ax 1) qh (sN (sp_read (nI k) p S).2) ++ (wN G (ax 2) qt u ++ (wSH (sh k) (nh k) (sB (sp_read (nI k) p S).2 k) (nI (sZ (sp_read (nI k) p S).2 k)) ++ [((nh k), .inl (gJ G, 40, .inr (.inl (sC (sp_read (nI k) p S).2 k))))])))))) := by
  refine ki_of [(0, .ref o), (1, .int (nI k)), (2, .int p)] (own := RX5) (cc := cX5_read) (nL := 8) (by decide +kernel) rfl rfl (Nat.le_of_ble_eq_true rfl) rfl (fun _ => rfl) (fun K cx fin => ?_)
  refine j_aload_n 0 cx 0 dX5_read_0 rfl ?_
  refine j_iload_n 1 cx 1 dX5_read_1 rfl ?_
  refine j_callV_q 2 cx 1 [0, 2] [.int (nI k)] (fun _ => wXO o ax (sP S) ++ ([((ax 7), .inl (gI G, 7, .inl (sF S)))] ++ ([((ax 6), .inl (gS G, 4, .inr (.inr (.inr (.inr (fun j => some (sh j)))))))] ++ (wN G (ax 1) qh (sN S) ++ (wN G (ax 2) qt τ ++ (wSH (sh k) (nh k) (sB S k) (nI (sZ S k)) ++ [((nh k), .inl (gJ G, 40, .inr (.inl (sC S k))))])))))) (c_X5_sheetAt_t (kl K) G o ax (sP S) sh k hk) gX5_read_X5_sheetAt rfl rfl rfl ⟨rfl, by decide, by decide, rfl⟩ ⟨Nat.le_of_ble_eq_true rfl, Nat.le_of_ble_eq_true rfl⟩ ⟨Nat.zero_le _, Nat.zero_le _⟩ rfl (by decide) (ci := 4) 0 rfl rfl rfl rfl rfl (Nat.le_of_ble_eq_true rfl) dX5_read_2 (fun _ => rfl) (fun zu1 zk1 => ?_)
  refine j_st (st' := [.ref ((sh k))]) rfl ?_
  refine j_astore_n 5 cx [(3, .ref ((sh k))), (0, .ref o), (1, .int (nI k)), (2, .int p)] dX5_read_5 (by decide) rfl ?_
  refine j_aload_n 6 cx 0 dX5_read_6 rfl ?_
  refine j_ifnonnull 7 cx 17 dX5_read_7 (by decide) ?_
  refine j_aload_n 17 cx 0 dX5_read_17 rfl ?_
  refine j_callV_i 18 cx 0 [17] [] (fun _ => wXO o ax (sP S) ++ ([((ax 7), .inl (gI G, 7, .inl (sF S)))] ++ ([((ax 6), .inl (gS G, 4, .inr (.inr (.inr (.inr (fun j => some (sh j)))))))] ++ (wN G (ax 1) qh (sN S) ++ (wN G (ax 2) qt τ ++ (wSH (sh k) (nh k) (sB S k) (nI (sZ S k)) ++ [((nh k), .inl (gJ G, 40, .inr (.inl (sC S k))))])))))) (c_X3_isMissing (kl K) G (sh k) (nh k) (sB S k) (nI (sZ S k))) gX5_read_X3_isMissing rfl rfl rfl ⟨rfl, by decide, by decide, rfl⟩ ⟨Nat.le_of_ble_eq_true rfl, Nat.le_of_ble_eq_true rfl⟩ ⟨Nat.zero_le _, Nat.zero_le _⟩ rfl (by decide) (ci := 2) 0 rfl rfl rfl rfl rfl (Nat.le_of_ble_eq_true rfl) dX5_read_18 (fun _ => rfl) (fun zu2 zk2 => ?_)
  refine j_top (bI (decide ((sB S k) = 0))) rfl ?_
  refine j_ifB_eq 21 cx 31 dX5_read_21 (by decide) (fun zc1 => ?_) (fun zc1 => ?_)
  · skip
    refine j_aload_n 31 cx 1 dX5_read_31 rfl ?_
    refine j_iload_n 32 cx 3 dX5_read_32 rfl ?_
    refine j_callV_i 33 cx 1 [0, 3, 4, 5, 6, 7, 8, 9] [.int p] (fun _ => wXO o ax (sP S) ++ ([((ax 7), .inl (gI G, 7, .inl (sF S)))] ++ ([((ax 6), .inl (gS G, 4, .inr (.inr (.inr (.inr (fun j => some (sh j)))))))] ++ (wN G (ax 1) qh (sN S) ++ (wN G (ax 2) qt τ ++ (wSH (sh k) (nh k) (sB S k) (nI (sZ S k)) ++ [((nh k), .inl (gJ G, 40, .inr (.inl (sC S k))))])))))) (c_X5_hasPart (kl K) G o ax (sP S) qh (sN S) p hI) gX5_read_X5_hasPart rfl rfl rfl ⟨rfl, by decide, by decide, rfl⟩ ⟨Nat.le_of_ble_eq_true rfl, Nat.le_of_ble_eq_true rfl⟩ ⟨Nat.zero_le _, Nat.zero_le _⟩ rfl (by decide) (ci := 4) 0 rfl rfl rfl rfl rfl (Nat.le_of_ble_eq_true rfl) dX5_read_33 (fun _ => rfl) (fun zu3 zk3 => ?_)
    refine j_top (bI (inI p 0 (nI (szN (sN S)) - 1))) rfl ?_
    refine j_ifB_ne 36 cx 46 dX5_read_36 (by decide) (fun zc2 => ?_) (fun zc2 => ?_)
    · skip
      obtain ⟨q, hq, rfl⟩ := in_n (by have := hI.sz8; omega) zc2
      have h8 := hI.sz8
      have hqc : (nI q).toNatClampNeg = q := nI_clamp (by omega)
      refine j_iconst 46 cx 0 dX5_read_46 (by decide) ?_
      refine j_istore 47 cx [(4, .int 0), (3, .ref ((sh k))), (0, .ref o), (1, .int (nI k)), (2, .int (nI q))] dX5_read_47 (by decide) rfl ?_
      refine j_iconst 49 cx 0 dX5_read_49 (by decide) ?_
      refine j_istore 50 cx [(5, .int 0), (4, .int 0), (3, .ref ((sh k))), (0, .ref o), (1, .int (nI k)), (2, .int (nI q))] dX5_read_50 (by decide) rfl ?_
      have L52 : ∀ d : Nat, ∀ (a : Nat) (zt : Nu), (a + d = 6) → JJ G K 0 0 (wXO o ax (sP S) ++ ([((ax 7), .inl (gI G, 7, .inl (sF S)))] ++ ([((ax 6), .inl (gS G, 4, .inr (.inr (.inr (.inr (fun j => some (sh j)))))))] ++ (wN G (ax 1) qh (sN S) ++ (wN G (ax 2) qt zt ++ (wSH (sh k) (nh k) (sB S k) (nI (sZ S k)) ++ [((nh k), .inl (gJ G, 40, .inr (.inl (sC S k))))])))))) [(5, .int (nI a)), (4, .int (nI (readN (sC S k) q (sZ S k) (sN S) (100 * a)))), (3, .ref ((sh k))), (2, .int (nI q)), (0, .ref o)] 52 [] := by
        intro d
        induction d with
        | zero =>
          intro a zt ha
          refine j_iload 52 cx 0 dX5_read_52 rfl ?_
          refine j_bipush 54 cx 6 dX5_read_54 (by decide) ?_
          refine j_icmp_ge_T 56 cx 116 dX5_read_56 (by decide) (nI_le (a := 6) (by omega) (by omega)) ?_
          refine j_iload 116 cx 1 dX5_read_116 rfl ?_
          have ze : (sp_read (nI k) (nI q) S) = (nI (readN (sC S k) q (sZ S k) (sN S) (100 * a)), S) := by unfold sp_read; rw [if_pos (s_in hk), show pN (nI k) = k from nI_clamp (by omega), if_neg (of_decide_eq_false zc1), isP_eq hI, if_pos zc2, show pN (nI q) = q from hqc, show 600 = 100 * a from by omega]
          exact fin zt _ _ _ _ dX5_read_118 rfl (by rw [ze] <;> rfl) (by rw [ze] <;> first | rfl | (simp only [stB, sB, sZ, sC, sF, sN, sP, uA_s] <;> rfl)) trivial
        | succ d ih52 =>
          intro a zt ha
          refine j_iload 52 cx 0 dX5_read_52 rfl ?_
          refine j_bipush 54 cx 6 dX5_read_54 (by decide) ?_
          refine j_icmp_ge_F 56 cx 116 dX5_read_56 (by decide) (nI_ge (b := 6) (by omega) (by omega)) ?_
          refine j_iconst 59 cx 0 dX5_read_59 (by decide) ?_
          refine j_istore 60 cx [(6, .int 0), (5, .int (nI a)), (4, .int (nI (readN (sC S k) q (sZ S k) (sN S) (100 * a)))), (3, .ref ((sh k))), (2, .int (nI q)), (0, .ref o)] dX5_read_60 (by decide) rfl ?_
          have L62 : ∀ d : Nat, ∀ (w : Nat) (zt : Nu), (w + d = 100) → JJ G K 0 0 (wXO o ax (sP S) ++ ([((ax 7), .inl (gI G, 7, .inl (sF S)))] ++ ([((ax 6), .inl (gS G, 4, .inr (.inr (.inr (.inr (fun j => some (sh j)))))))] ++ (wN G (ax 1) qh (sN S) ++ (wN G (ax 2) qt zt ++ (wSH (sh k) (nh k) (sB S k) (nI (sZ S k)) ++ [((nh k), .inl (gJ G, 40, .inr (.inl (sC S k))))])))))) [(6, .int (nI w)), (5, .int (nI a)), (4, .int (nI (readN (sC S k) q (sZ S k) (sN S) (100 * a + w)))), (3, .ref ((sh k))), (2, .int (nI q)), (0, .ref o)] 62 [] := by
            intro d
            induction d with
            | zero =>
              intro w zt hw
              refine j_iload 62 cx 0 dX5_read_62 rfl ?_
              refine j_bipush 64 cx 99 dX5_read_64 (by decide) ?_
              refine j_icmp_gt_T 66 cx 110 dX5_read_66 (by decide) (nI_lt (a := 99) (by omega) (by omega)) ?_
              refine j_iinc 110 cx [(5, .int (nI (a + 1))), (6, .int (nI w)), (4, .int (nI (readN (sC S k) q (sZ S k) (sN S) (100 * a + w)))), (3, .ref ((sh k))), (2, .int (nI q)), (0, .ref o)] 1 (nI (a + 1)) dX5_read_110 rfl (iinc1 a) (by decide) rfl ?_
              refine j_goto 113 cx 52 dX5_read_113 (by decide) ?_
              refine j_lv [0, 2, 3, 4, 5] rfl ?_
              have h9 := ih52 (a + 1) zt (by omega)
              rw [show 100 * (a + 1) = 100 * a + w from by omega] at h9
              exact h9
            | succ d ih62 =>
              intro w zt hw
              refine j_iload 62 cx 0 dX5_read_62 rfl ?_
              refine j_bipush 64 cx 99 dX5_read_64 (by decide) ?_
              refine j_icmp_gt_F 66 cx 110 dX5_read_66 (by decide) (nI_nlt (a := 99) (by omega) (by omega)) ?_
              refine j_aload_n 69 cx 5 dX5_read_69 rfl ?_
              refine j_callV_q 70 cx 0 [0, 3, 4, 5, 6, 7, 8, 9, 10, 11, 12, 13, 14, 15, 16] [] (fun _ => wXO o ax (sP S) ++ ([((ax 7), .inl (gI G, 7, .inl (sF S)))] ++ ([((ax 6), .inl (gS G, 4, .inr (.inr (.inr (.inr (fun j => some (sh j)))))))] ++ (wN G (ax 1) qh (sN S) ++ (wN G (ax 2) qt (sN S) ++ (wSH (sh k) (nh k) (sB S k) (nI (sZ S k)) ++ [((nh k), .inl (gJ G, 40, .inr (.inl (sC S k))))])))))) (c_X5_rehearsal (kl K) G o ax (sP S) qh qt (sN S) zt) gX5_read_X5_rehearsal rfl rfl rfl ⟨rfl, by decide, by decide, rfl⟩ ⟨Nat.le_of_ble_eq_true rfl, Nat.le_of_ble_eq_true rfl⟩ ⟨Nat.zero_le _, Nat.zero_le _⟩ rfl (by decide) (ci := 4) 0 rfl rfl rfl rfl rfl (Nat.le_of_ble_eq_true rfl) dX5_read_70 (fun _ => rfl) (fun zu4 zk4 => ?_)
              refine j_st (st' := [.ref ((ax 2))]) rfl ?_
              refine j_astore 73 cx [(7, .ref ((ax 2))), (6, .int (nI w)), (5, .int (nI a)), (4, .int (nI (readN (sC S k) q (sZ S k) (sN S) (100 * a + w)))), (3, .ref ((sh k))), (2, .int (nI q)), (0, .ref o)] dX5_read_73 (by decide) rfl ?_
              refine j_aload 75 cx 0 dX5_read_75 rfl ?_
              refine j_get 77 cx 10 5 (T := TX1) (v := .ref (qt 2)) (fun _ h => List.mem_cons_of_mem _ (List.mem_append_left _ (List.mem_append_left _ (List.mem_append_right _ (h))))) (List.mem_of_getElem? (i := 3) rfl) (ci := 0) rfl (by decide) rfl rfl rfl dX5_read_77 ?_
              refine j_iload_n 80 cx 5 dX5_read_80 rfl ?_
              refine j_iload 81 cx 2 dX5_read_81 rfl ?_
              refine j_iast 83 cx 12 q (wXO o ax (sP S) ++ ([((ax 7), .inl (gI G, 7, .inl (sF S)))] ++ ([((ax 6), .inl (gS G, 4, .inr (.inr (.inr (.inr (fun j => some (sh j)))))))] ++ (wN G (ax 1) qh (sN S) ++ (wN G (ax 2) qt (up2 (sN S) 2 q (nI a)) ++ (wSH (sh k) (nh k) (sB S k) (nI (sZ S k)) ++ [((nh k), .inl (gJ G, 40, .inr (.inl (sC S k))))])))))) rfl rfl (by omega) (by decide) rfl dX5_read_83 ?_
              refine j_aload 84 cx 0 dX5_read_84 rfl ?_
              refine j_iload 86 cx 1 dX5_read_86 rfl ?_
              refine j_put 88 cx 10 1 (wXO o ax (sP S) ++ ([((ax 7), .inl (gI G, 7, .inl (sF S)))] ++ ([((ax 6), .inl (gS G, 4, .inr (.inr (.inr (.inr (fun j => some (sh j)))))))] ++ (wN G (ax 1) qh (sN S) ++ (wN G (ax 2) qt (up2 (up2 (sN S) 2 q (nI a)) 0 1 (nI w)) ++ (wSH (sh k) (nh k) (sB S k) (nI (sZ S k)) ++ [((nh k), .inl (gJ G, 40, .inr (.inl (sC S k))))])))))) (T := TX1) (ty0 := tyX1) (fun _ h => List.mem_cons_of_mem _ (List.mem_append_left _ (List.mem_append_left _ (List.mem_append_right _ (h))))) (List.mem_of_getElem? (i := 4) rfl) (ci := 0) rfl (by decide) rfl tyX1_ok nmX1 rfl rfl rfl rfl (Nat.le_of_ble_eq_true rfl) rfl dX5_read_88 ?_
              refine j_aload 91 cx 0 dX5_read_91 rfl ?_
              refine j_iload_n 93 cx 5 dX5_read_93 rfl ?_
              refine j_aload_n 94 cx 4 dX5_read_94 rfl ?_
              refine j_callS_i 95 cx 3 [10, 11, 12, 13, 14, 15, 16, 17, 18] [.ref ((ax 2)), .int (nI q), .ref ((sh k))] (fun zu5 => wXO o ax (sP S) ++ ([((ax 7), .inl (gI G, 7, .inl (sF S)))] ++ ([((ax 6), .inl (gS G, 4, .inr (.inr (.inr (.inr (fun j => some (sh j)))))))] ++ (wN G (ax 1) qh (sN S) ++ (wN G (ax 2) qt zu5 ++ (wSH (sh k) (nh k) (sB S k) (nI (sZ S k)) ++ [((nh k), .inl (gJ G, 40, .inr (.inl (sC S k))))])))))) (c_X5_goesAs (kl K) G (ax 2) qt (up2 (up2 (sN S) 2 q (nI a)) 0 1 (nI w)) (sh k) (nh k) (sB S k) (sZ S k) q (sC S k) (inv_upw (inv_upx hI 2 q (nI a) (by omega)) (nI_99 (by omega))) (by omega) (by omega) (by have h9 : dyN (up2 (up2 (sN S) 2 q (nI a)) 0 1 (nI w)) ≤ 9999 := hD; omega)) gX5_read_X5_goesAs rfl rfl rfl ⟨by decide, by decide, rfl⟩ ⟨Nat.le_of_ble_eq_true rfl, Nat.le_of_ble_eq_true rfl⟩ ⟨Nat.zero_le _, Nat.zero_le _⟩ rfl (by decide) rfl rfl (Nat.le_of_ble_eq_true rfl) dX5_read_95 (fun _ => rfl) (fun zu5 zk5 => ?_)
              refine j_top (bI (isBk (sC S k) q (up2 (up2 (sN S) 2 q (nI a)) 0 1 (nI w)) (sZ S k))) rfl ?_
              refine j_ifB_eq 98 cx 104 dX5_read_98 (by decide) (fun zc3 => ?_) (fun zc3 => ?_)
              · skip
                refine j_iinc 104 cx [(6, .int (nI (w + 1))), (7, .ref ((ax 2))), (5, .int (nI a)), (4, .int (nI (readN (sC S k) q (sZ S k) (sN S) (100 * a + w)))), (3, .ref ((sh k))), (2, .int (nI q)), (0, .ref o)] 1 (nI (w + 1)) dX5_read_104 rfl (iinc1 w) (by decide) rfl ?_
                refine j_goto 107 cx 62 dX5_read_107 (by decide) ?_
                refine j_lv [0, 2, 3, 4, 5, 6] rfl ?_
                have h9 := ih62 (w + 1) zu5 (by omega)
                rw [readN_f (by omega) zc3] at h9
                exact h9
              · skip
                refine j_iinc 101 cx [(4, .int (nI ((readN (sC S k) q (sZ S k) (sN S) (100 * a + w)) + 1))), (7, .ref ((ax 2))), (6, .int (nI w)), (5, .int (nI a)), (3, .ref ((sh k))), (2, .int (nI q)), (0, .ref o)] 3 (nI ((readN (sC S k) q (sZ S k) (sN S) (100 * a + w)) + 1)) dX5_read_101 rfl (iinc1 (readN (sC S k) q (sZ S k) (sN S) (100 * a + w))) (by decide) rfl ?_
                refine j_iinc 104 cx [(6, .int (nI (w + 1))), (4, .int (nI ((readN (sC S k) q (sZ S k) (sN S) (100 * a + w)) + 1))), (7, .ref ((ax 2))), (5, .int (nI a)), (3, .ref ((sh k))), (2, .int (nI q)), (0, .ref o)] 2 (nI (w + 1)) dX5_read_104 rfl (iinc1 w) (by decide) rfl ?_
                refine j_goto 107 cx 62 dX5_read_107 (by decide) ?_
                refine j_lv [0, 3, 1, 4, 5, 6] rfl ?_
                have h9 := ih62 (w + 1) zu5 (by omega)
                rw [readN_t (by omega) zc3] at h9
                exact h9
          exact L62 100 0 zt (by omega)
      refine j_lv [0, 1, 2, 5, 3] rfl ?_
      exact L52 6 0 τ (by omega)
    · skip
      refine j_aload_n 39 cx 1 dX5_read_39 rfl ?_
      refine j_ldc 40 cx (v := -1000000001) (List.mem_of_getElem? (i := 1) rfl) dX5_read_40 ?_
      refine j_callV_i 42 cx 1 [0, 1] [.int (fcode 0)] (fun _ => wXO o ax (sP S) ++ ([((ax 7), .inl (gI G, 7, .inl (upd (sF S) 0 ((sF S) 0 + 1))))] ++ ([((ax 6), .inl (gS G, 4, .inr (.inr (.inr (.inr (fun j => some (sh j)))))))] ++ (wN G (ax 1) qh (sN S) ++ (wN G (ax 2) qt τ ++ (wSH (sh k) (nh k) (sB S k) (nI (sZ S k)) ++ [((nh k), .inl (gJ G, 40, .inr (.inl (sC S k))))])))))) (c_X5_finding (kl K) G o ax (sP S) (sF S) 0 (by decide)) gX5_read_X5_finding rfl rfl rfl ⟨rfl, by decide, by decide, rfl⟩ ⟨Nat.le_of_ble_eq_true rfl, Nat.le_of_ble_eq_true rfl⟩ ⟨Nat.zero_le _, Nat.zero_le _⟩ rfl (by decide) (ci := 4) 0 rfl rfl rfl rfl rfl (Nat.le_of_ble_eq_true rfl) dX5_read_42 (fun _ => rfl) (fun zu7 zk6 => ?_)
      refine j_top (fcode 0) rfl ?_
      have ze : (sp_read (nI k) p S) = bad S 0 := by unfold sp_read; simp [isP_eq hI, s_in hk, show pN (nI k) = k from nI_clamp (by omega), of_decide_eq_false zc1, zc2]
      exact fin τ _ _ _ _ dX5_read_45 rfl (by rw [ze] <;> rfl) (by rw [ze] <;> first | rfl | (simp only [stB, sB, sZ, sC, sF, sN, sP, uA_s] <;> rfl)) trivial
  · skip
    refine j_aload_n 24 cx 1 dX5_read_24 rfl ?_
    refine j_ldc 25 cx (v := -1000000006) (List.mem_of_getElem? (i := 2) rfl) dX5_read_25 ?_
    refine j_callV_i 27 cx 1 [0, 1] [.int (fcode 5)] (fun _ => wXO o ax (sP S) ++ ([((ax 7), .inl (gI G, 7, .inl (upd (sF S) 5 ((sF S) 5 + 1))))] ++ ([((ax 6), .inl (gS G, 4, .inr (.inr (.inr (.inr (fun j => some (sh j)))))))] ++ (wN G (ax 1) qh (sN S) ++ (wN G (ax 2) qt τ ++ (wSH (sh k) (nh k) (sB S k) (nI (sZ S k)) ++ [((nh k), .inl (gJ G, 40, .inr (.inl (sC S k))))])))))) (c_X5_finding (kl K) G o ax (sP S) (sF S) 5 (by decide)) gX5_read_X5_finding rfl rfl rfl ⟨rfl, by decide, by decide, rfl⟩ ⟨Nat.le_of_ble_eq_true rfl, Nat.le_of_ble_eq_true rfl⟩ ⟨Nat.zero_le _, Nat.zero_le _⟩ rfl (by decide) (ci := 4) 0 rfl rfl rfl rfl rfl (Nat.le_of_ble_eq_true rfl) dX5_read_27 (fun _ => rfl) (fun zu8 zk7 => ?_)
    refine j_top (fcode 5) rfl ?_
    have ze : (sp_read (nI k) p S) = bad S 5 := by unfold sp_read; simp [isP_eq hI, s_in hk, show pN (nI k) = k from nI_clamp (by omega), of_decide_eq_true zc1]
    exact fin τ _ _ _ _ dX5_read_30 rfl (by rw [ze] <;> rfl) (by rw [ze] <;> first | rfl | (simp only [stB, sB, sZ, sC, sF, sN, sP, uA_s] <;> rfl)) trivial
