set_option maxRecDepth 100000 in
set_option maxHeartbeats 4000000 in
theorem c_X5_write_t (l : Launch) (G : pG) (o : Nat) (ax : Nat → Nat) (sh nh : Nat → Nat) (k : Nat) (hk : k < 4) (S : St) (hz : sZ S k ≤ 40) (i : Int32) (v : Int64) : KL l G yX5_write wsX5_write ({ frames := 2, cells := 0, slots := 0, locals := 45 } : Room) [.ref o, .int (nI k), .int i, .long (v)] (wXO o ax (sP S) ++ ([((ax 7), .inl (gI G, 7, .inl (sF S)))] ++ ([((ax 6), .inl (gS G, 4, .inr (.inr (.inr (.inr (fun j => some (sh j)))))))] ++ (wSH (sh k) (nh k) (sB S k) (nI (sZ S k)) ++ [((nh k), .inl (gJ G, 40, .inr (.inl (sC S k))))])))) (S := Unit) (fun _ => True) (fun u => (sp_write (nI k) i v S).1) (fun u => wXO o ax (sP S) ++ ([((ax 7), .inl (gI G, 7, .inl (sF (sp_write (nI k) i v S).2)))] ++ ([((ax 6), .inl (gS G, 4, .inr (.inr (.inr (.inr (fun j => some (sh j)))))))] ++ (wSH (sh k) (nh k) (sB (sp_write (nI k) i v S).2 k) (nI (sZ (sp_write (nI k) i v S).2 k)) ++ [((nh k), .inl (gJ G, 40, .inr (.inl (sC (sp_write (nI k) i v S).2 k))))])))) := by
  refine kl_of [(0, .ref o), (1, .int (nI k)), (2, .int i), (3, .long (v))] (own := RX5) (cc := cX5_write) (nL := 8) (by decide +kernel) rfl rfl (Nat.le_of_ble_eq_true rfl) rfl (fun _ => rfl) (fun K cx fin => ?_)
  refine j_aload_n 0 cx 0 dX5_write_0 rfl ?_
  refine j_iload_n 1 cx 1 dX5_write_1 rfl ?_
  refine j_callV_q 2 cx 1 [0, 2] [.int (nI k)] (fun _ => wXO o ax (sP S) ++ ([((ax 7), .inl (gI G, 7, .inl (sF S)))] ++ ([((ax 6), .inl (gS G, 4, .inr (.inr (.inr (.inr (fun j => some (sh j)))))))] ++ (wSH (sh k) (nh k) (sB S k) (nI (sZ S k)) ++ [((nh k), .inl (gJ G, 40, .inr (.inl (sC S k))))])))) (c_X5_sheetAt_t (kl K) G o ax (sP S) sh k hk) gX5_write_X5_sheetAt rfl rfl rfl ⟨rfl, by decide, by decide, rfl⟩ ⟨Nat.le_of_ble_eq_true rfl, Nat.le_of_ble_eq_true rfl⟩ ⟨Nat.zero_le _, Nat.zero_le _⟩ rfl (by decide) (ci := 4) 0 rfl rfl rfl rfl rfl (Nat.le_of_ble_eq_true rfl) dX5_write_2 (fun _ => rfl) (fun zu1 zk1 => ?_)
  refine j_st (st' := [.ref ((sh k))]) rfl ?_
  refine j_astore 5 cx [(5, .ref ((sh k))), (0, .ref o), (1, .int (nI k)), (2, .int i), (3, .long (v))] dX5_write_5 (by decide) rfl ?_
  refine j_aload 7 cx 0 dX5_write_7 rfl ?_
  refine j_ifnonnull 9 cx 20 dX5_write_9 (by decide) ?_
  refine j_aload 20 cx 0 dX5_write_20 rfl ?_
  refine j_callV_i 22 cx 0 [3] [] (fun _ => wXO o ax (sP S) ++ ([((ax 7), .inl (gI G, 7, .inl (sF S)))] ++ ([((ax 6), .inl (gS G, 4, .inr (.inr (.inr (.inr (fun j => some (sh j)))))))] ++ (wSH (sh k) (nh k) (sB S k) (nI (sZ S k)) ++ [((nh k), .inl (gJ G, 40, .inr (.inl (sC S k))))])))) (c_X3_isMissing (kl K) G (sh k) (nh k) (sB S k) (nI (sZ S k))) gX5_write_X3_isMissing rfl rfl rfl ⟨rfl, by decide, by decide, rfl⟩ ⟨Nat.le_of_ble_eq_true rfl, Nat.le_of_ble_eq_true rfl⟩ ⟨Nat.zero_le _, Nat.zero_le _⟩ rfl (by decide) (ci := 2) 0 rfl rfl rfl rfl rfl (Nat.le_of_ble_eq_true rfl) dX5_write_22 (fun _ => rfl) (fun zu2 zk2 => ?_)
  refine j_top (bI (decide ((sB S k) = 0))) rfl ?_
  refine j_ifB_eq 25 cx 36 dX5_write_25 (by decide) (fun zc1 => ?_) (fun zc1 => ?_)
  · skip
    refine j_iload_n 36 cx 3 dX5_write_36 rfl ?_
    refine j_iconst 37 cx 0 dX5_write_37 (by decide) ?_
    refine j_aload 38 cx 0 dX5_write_38 rfl ?_
    refine j_get 40 cx 3 2 (T := TX3) (v := .int (nI (sZ S k))) (fun _ h => List.mem_cons_of_mem _ (List.mem_append_left _ (List.mem_append_right _ (h)))) (List.mem_of_getElem? (i := 3) rfl) (ci := 2) rfl (by decide) rfl rfl rfl dX5_write_40 ?_
    refine j_iconst 43 cx 1 dX5_write_43 (by decide) ?_
    refine j_isub 44 cx dX5_write_44 ?_
    refine j_callS_i 45 cx 3 [] [.int i, .int 0, .int ((nI (sZ S k)) - 1)] (fun _ => wXO o ax (sP S) ++ ([((ax 7), .inl (gI G, 7, .inl (sF S)))] ++ ([((ax 6), .inl (gS G, 4, .inr (.inr (.inr (.inr (fun j => some (sh j)))))))] ++ (wSH (sh k) (nh k) (sB S k) (nI (sZ S k)) ++ [((nh k), .inl (gJ G, 40, .inr (.inl (sC S k))))])))) (c_X5_inside (kl K) G i 0 ((nI (sZ S k)) - 1)) gX5_write_X5_inside rfl rfl rfl ⟨by decide, by decide, rfl⟩ ⟨Nat.le_of_ble_eq_true rfl, Nat.le_of_ble_eq_true rfl⟩ ⟨Nat.zero_le _, Nat.zero_le _⟩ rfl (by decide) rfl rfl (Nat.le_of_ble_eq_true rfl) dX5_write_45 (fun _ => rfl) (fun zu3 zk3 => ?_)
    refine j_top (bI (inI i 0 ((nI (sZ S k)) - 1))) rfl ?_
    refine j_ifB_ne 48 cx 59 dX5_write_48 (by decide) (fun zc2 => ?_) (fun zc2 => ?_)
    · skip
      obtain ⟨j, hj, rfl⟩ := in_n (by omega) zc2
      have hcj : (nI j).toNatClampNeg = j := nI_clamp (by omega)
      refine j_aload 59 cx 0 dX5_write_59 rfl ?_
      refine j_get 61 cx 3 0 (T := TX3) (v := .ref ((nh k))) (fun _ h => List.mem_cons_of_mem _ (List.mem_append_left _ (List.mem_append_right _ (h)))) (List.mem_of_getElem? (i := 4) rfl) (ci := 2) rfl (by decide) rfl rfl rfl dX5_write_61 ?_
      refine j_iload_n 64 cx 3 dX5_write_64 rfl ?_
      refine j_lald 65 cx 4 j rfl rfl (by omega) (by decide) dX5_write_65 ?_
      refine j_lstore 66 cx [(6, .long ((sC S k) j)), (5, .ref ((sh k))), (0, .ref o), (1, .int (nI k)), (2, .int (nI j)), (3, .long (v))] dX5_write_66 (by decide) rfl ?_
      refine j_aload 68 cx 1 dX5_write_68 rfl ?_
      refine j_iload_n 70 cx 4 dX5_write_70 rfl ?_
      refine j_lload_n 71 cx 5 dX5_write_71 rfl ?_
      refine j_callV_v 72 cx 2 [3, 4] [.int (nI j), .long (v)] (fun _ => wXO o ax (sP S) ++ ([((ax 7), .inl (gI G, 7, .inl (sF S)))] ++ ([((ax 6), .inl (gS G, 4, .inr (.inr (.inr (.inr (fun j => some (sh j)))))))] ++ (wSH (sh k) (nh k) (sB S k) (nI (sZ S k)) ++ [((nh k), .inl (gJ G, 40, .inr (.inl (vp_updL (sC S k) j (cutF (sB S k) v)))))])))) (c_X3_put (kl K) G (sh k) (nh k) (sB S k) (sZ S k) j (sC S k) v (by omega) (by omega)) gX5_write_X3_put rfl rfl rfl ⟨rfl, by decide, by decide, rfl⟩ ⟨Nat.le_of_ble_eq_true rfl, Nat.le_of_ble_eq_true rfl⟩ ⟨Nat.zero_le _, Nat.zero_le _⟩ rfl (by decide) (ci := 2) 0 rfl rfl rfl rfl rfl (Nat.le_of_ble_eq_true rfl) dX5_write_72 (fun _ => rfl) (fun zu4 zk4 => ?_)
      refine j_lload 75 cx 0 dX5_write_75 rfl ?_
      have ze : (sp_write (nI k) (nI j) v S) = ((sC S k) j, stB S (sB S) (sZ S) (uA (sC S) k (vp_updL (sC S k) j (cutF (sB S k) v)))) := by unfold sp_write; simp [s_in hk, show pN (nI k) = k from nI_clamp (by omega), of_decide_eq_false zc1, zc2, hcj]
      exact fin () _ _ _ _ dX5_write_77 (by rw [ze] <;> rfl) (by rw [ze] <;> first | rfl | (simp only [stB, sB, sZ, sC, sF, sN, sP, uA_s, uA_s] <;> rfl)) trivial
    · skip
      refine j_aload_n 51 cx 1 dX5_write_51 rfl ?_
      refine j_ldc 52 cx (v := -1000000001) (List.mem_of_getElem? (i := 1) rfl) dX5_write_52 ?_
      refine j_callV_i 54 cx 1 [0, 1] [.int (fcode 0)] (fun _ => wXO o ax (sP S) ++ ([((ax 7), .inl (gI G, 7, .inl (upd (sF S) 0 ((sF S) 0 + 1))))] ++ ([((ax 6), .inl (gS G, 4, .inr (.inr (.inr (.inr (fun j => some (sh j)))))))] ++ (wSH (sh k) (nh k) (sB S k) (nI (sZ S k)) ++ [((nh k), .inl (gJ G, 40, .inr (.inl (sC S k))))])))) (c_X5_finding (kl K) G o ax (sP S) (sF S) 0 (by decide)) gX5_write_X5_finding rfl rfl rfl ⟨rfl, by decide, by decide, rfl⟩ ⟨Nat.le_of_ble_eq_true rfl, Nat.le_of_ble_eq_true rfl⟩ ⟨Nat.zero_le _, Nat.zero_le _⟩ rfl (by decide) (ci := 4) 0 rfl rfl rfl rfl rfl (Nat.le_of_ble_eq_true rfl) dX5_write_54 (fun _ => rfl) (fun zu5 zk5 => ?_)
      refine j_top (fcode 0) rfl ?_
      refine j_i2l 57 cx dX5_write_57 ?_
      have ze : (sp_write (nI k) i v S) = badL S 0 := by unfold sp_write; simp [s_in hk, show pN (nI k) = k from nI_clamp (by omega), of_decide_eq_false zc1, zc2]
      exact fin () _ _ _ _ dX5_write_58 (by rw [ze] <;> rfl) (by rw [ze] <;> first | rfl | (simp only [stB, sB, sZ, sC, sF, sN, sP, uA_s, uA_s] <;> rfl)) trivial
  · skip
    refine j_aload_n 28 cx 1 dX5_write_28 rfl ?_
    refine j_ldc 29 cx (v := -1000000006) (List.mem_of_getElem? (i := 2) rfl) dX5_write_29 ?_
    refine j_callV_i 31 cx 1 [0, 1] [.int (fcode 5)] (fun _ => wXO o ax (sP S) ++ ([((ax 7), .inl (gI G, 7, .inl (upd (sF S) 5 ((sF S) 5 + 1))))] ++ ([((ax 6), .inl (gS G, 4, .inr (.inr (.inr (.inr (fun j => some (sh j)))))))] ++ (wSH (sh k) (nh k) (sB S k) (nI (sZ S k)) ++ [((nh k), .inl (gJ G, 40, .inr (.inl (sC S k))))])))) (c_X5_finding (kl K) G o ax (sP S) (sF S) 5 (by decide)) gX5_write_X5_finding rfl rfl rfl ⟨rfl, by decide, by decide, rfl⟩ ⟨Nat.le_of_ble_eq_true rfl, Nat.le_of_ble_eq_true rfl⟩ ⟨Nat.zero_le _, Nat.zero_le _⟩ rfl (by decide) (ci := 4) 0 rfl rfl rfl rfl rfl (Nat.le_of_ble_eq_true rfl) dX5_write_31 (fun _ => rfl) (fun zu6 zk6 => ?_)
    refine j_top (fcode 5) rfl ?_
    refine j_i2l 34 cx dX5_write_34 ?_
    have ze : (sp_write (nI k) i v S) = badL S 5 := by unfold sp_write; simp [s_in hk, show pN (nI k) = k from nI_clamp (by omega), of_decide_eq_true zc1]
    exact fin () _ _ _ _ dX5_write_35 (by rw [ze] <;> rfl) (by rw [ze] <;> first | rfl | (simp only [stB, sB, sZ, sC, sF, sN, sP, uA_s, uA_s] <;> rfl)) trivial
