theorem uA_s {α : Type} (f : Nat → α) (k : Nat) (v : α) : uA f k v k = v := if_pos rfl
theorem mx_n {n : Int32} (h0 : 0 ≤ n) (h1 : n ≤ 40) : mx0 (mnI 40 n) = nI (pN n) := by
  obtain ⟨k, h, rfl⟩ := in_k (M := 40) (m := 40) rfl (decide_eq_true ⟨h0, h1⟩)
  have e : pN (nI k) = k := nI_clamp (by omega)
  rw [e]
  apply Int32.toInt_inj.mp
  rw [mx0_ti, mnI_ti, nI_toInt (by omega), show (40 : Int32).toInt = 40 from rfl]
  repeat' split
  all_goals omega
theorem s_in {k : Nat} (h : k < 4) : inI (nI k) 0 3 = true := decide_eq_true ⟨nI_pos' (by omega), nI_le (b := 3) (by omega) (by omega)⟩
set_option maxRecDepth 100000 in
set_option maxHeartbeats 4000000 in
theorem c_X5_sheet_t (l : Launch) (G : pG) (o : Nat) (ax : Nat → Nat) (sh nh : Nat → Nat) (k : Nat) (hk : k < 4) (S : St) (b n : Int32) : KI l G yX5_sheet wsX5_sheet ({ frames := 2, cells := 0, slots := 0, locals := 44 } : Room) [.ref o, .int (nI k), .int b, .int n] (wXO o ax (sP S) ++ ([((ax 7), .inl (gI G, 7, .inl (sF S)))] ++ ([((ax 6), .inl (gS G, 4, .inr (.inr (.inr (.inr (fun j => some (sh j)))))))] ++ (wSH (sh k) (nh k) (sB S k) (nI (sZ S k)) ++ [((nh k), .inl (gJ G, 40, .inr (.inl (sC S k))))])))) (S := Unit) (fun _ => True) (fun u => (sp_sheet (nI k) b n S).1) (fun u => wXO o ax (sP S) ++ ([((ax 7), .inl (gI G, 7, .inl (sF (sp_sheet (nI k) b n S).2)))] ++ ([((ax 6), .inl (gS G, 4, .inr (.inr (.inr (.inr (fun j => some (sh j)))))))] ++ (wSH (sh k) (nh k) (sB (sp_sheet (nI k) b n S).2 k) (nI (sZ (sp_sheet (nI k) b n S).2 k)) ++ [((nh k), .inl (gJ G, 40, .inr (.inl (sC (sp_sheet (nI k) b n S).2 k))))])))) := by
  refine ki_of [(0, .ref o), (1, .int (nI k)), (2, .int b), (3, .int n)] (own := RX5) (cc := cX5_sheet) (nL := 5) (by decide +kernel) rfl rfl (Nat.le_of_ble_eq_true rfl) rfl (fun _ => rfl) (fun K cx fin => ?_)
  refine j_aload_n 0 cx 0 dX5_sheet_0 rfl ?_
  refine j_iload_n 1 cx 1 dX5_sheet_1 rfl ?_
  refine j_callV_q 2 cx 1 [0, 2] [.int (nI k)] (fun _ => wXO o ax (sP S) ++ ([((ax 7), .inl (gI G, 7, .inl (sF S)))] ++ ([((ax 6), .inl (gS G, 4, .inr (.inr (.inr (.inr (fun j => some (sh j)))))))] ++ (wSH (sh k) (nh k) (sB S k) (nI (sZ S k)) ++ [((nh k), .inl (gJ G, 40, .inr (.inl (sC S k))))])))) (c_X5_sheetAt_t (kl K) G o ax (sP S) sh k hk) gX5_sheet_X5_sheetAt rfl rfl rfl ⟨rfl, by decide, by decide, rfl⟩ ⟨Nat.le_of_ble_eq_true rfl, Nat.le_of_ble_eq_true rfl⟩ ⟨Nat.zero_le _, Nat.zero_le _⟩ rfl (by decide) (ci := 4) 0 rfl rfl rfl rfl rfl (Nat.le_of_ble_eq_true rfl) dX5_sheet_2 (fun _ => rfl) (fun zu1 zk1 => ?_)
  refine j_st (st' := [.ref ((sh k))]) rfl ?_
  refine j_astore 5 cx [(4, .ref ((sh k))), (0, .ref o), (1, .int (nI k)), (2, .int b), (3, .int n)] dX5_sheet_5 (by decide) rfl ?_
  refine j_aload 7 cx 0 dX5_sheet_7 rfl ?_
  refine j_ifnull 9 cx dX5_sheet_9 ?_
  refine j_iload_n 12 cx 3 dX5_sheet_12 rfl ?_
  refine j_if_eq 13 cx 41 dX5_sheet_13 (by decide) (fun zc1 => ?_) (fun zc1 => ?_)
  · skip
    refine j_iload_n 41 cx 4 dX5_sheet_41 rfl ?_
    refine j_if_ge 42 cx 52 dX5_sheet_42 (by decide) (fun zc2 => ?_) (fun zc2 => ?_)
    · skip
      refine j_iload_n 52 cx 4 dX5_sheet_52 rfl ?_
      refine j_bipush 53 cx 40 dX5_sheet_53 (by decide) ?_
      refine j_icmp_le 55 cx 65 dX5_sheet_55 (by decide) (fun zc3 => ?_) (fun zc3 => ?_)
      · skip
        refine j_aload 65 cx 0 dX5_sheet_65 rfl ?_
        refine j_iload_n 67 cx 3 dX5_sheet_67 rfl ?_
        refine j_iload_n 68 cx 3 dX5_sheet_68 rfl ?_
        refine j_if_ne_F 69 cx 76 dX5_sheet_69 (by decide) zc1 ?_
        refine j_iconst 72 cx 0 dX5_sheet_72 (by decide) ?_
        refine j_goto 73 cx 77 dX5_sheet_73 (by decide) ?_
        refine j_callV_v 77 cx 2 [3, 4] [.int b, .int 0] (fun _ => wXO o ax (sP S) ++ ([((ax 7), .inl (gI G, 7, .inl (sF S)))] ++ ([((ax 6), .inl (gS G, 4, .inr (.inr (.inr (.inr (fun j => some (sh j)))))))] ++ (wSH (sh k) (nh k) b (mx0 (mnI 40 0)) ++ [((nh k), .inl (gJ G, 40, .inr (.inl (fun _ => 0))))])))) (c_X3_begin (kl K) G (sh k) (nh k) (sB S k) (nI (sZ S k)) (sC S k) b 0) gX5_sheet_X3_begin rfl rfl rfl ⟨rfl, by decide, by decide, rfl⟩ ⟨Nat.le_of_ble_eq_true rfl, Nat.le_of_ble_eq_true rfl⟩ ⟨Nat.zero_le _, Nat.zero_le _⟩ rfl (by decide) (ci := 2) 0 rfl rfl rfl rfl rfl (Nat.le_of_ble_eq_true rfl) dX5_sheet_77 (fun _ => rfl) (fun zu2 zk2 => ?_)
        refine j_aload 80 cx 0 dX5_sheet_80 rfl ?_
        refine j_get 82 cx 3 2 (T := TX3) (v := .int ((mx0 (mnI 40 0)))) (fun _ h => List.mem_cons_of_mem _ (List.mem_append_left _ (List.mem_append_right _ (h)))) (List.mem_of_getElem? (i := 3) rfl) (ci := 2) rfl (by decide) rfl rfl rfl dX5_sheet_82 ?_
        have ze : (sp_sheet (nI k) b n S) = ((mx0 (mnI 40 0)), stB S (uA (sB S) k b) (uA (sZ S) k 0) (uA (sC S) k (fun _ => 0))) := by rw [(show mx0 (mnI 40 0) = nI 0 from by decide)]; unfold sp_sheet; simp [s_in hk, show pN (nI k) = k from nI_clamp (by omega), zc1, Int32.not_lt.mpr zc2, Int32.not_lt.mpr zc3]
        exact fin () _ _ _ _ dX5_sheet_85 rfl (by rw [ze] <;> rfl) (by rw [ze] <;> first | rfl | (simp only [stB, sB, sZ, sC, sF, sN, sP, uA_s, (show mx0 (mnI 40 0) = nI 0 from by decide)] <;> rfl)) trivial
      · skip
        refine j_aload_n 58 cx 1 dX5_sheet_58 rfl ?_
        refine j_ldc 59 cx (v := -1000000001) (List.mem_of_getElem? (i := 1) rfl) dX5_sheet_59 ?_
        refine j_callV_i 61 cx 1 [0, 1] [.int (fcode 0)] (fun _ => wXO o ax (sP S) ++ ([((ax 7), .inl (gI G, 7, .inl (upd (sF S) 0 ((sF S) 0 + 1))))] ++ ([((ax 6), .inl (gS G, 4, .inr (.inr (.inr (.inr (fun j => some (sh j)))))))] ++ (wSH (sh k) (nh k) (sB S k) (nI (sZ S k)) ++ [((nh k), .inl (gJ G, 40, .inr (.inl (sC S k))))])))) (c_X5_finding (kl K) G o ax (sP S) (sF S) 0 (by decide)) gX5_sheet_X5_finding rfl rfl rfl ⟨rfl, by decide, by decide, rfl⟩ ⟨Nat.le_of_ble_eq_true rfl, Nat.le_of_ble_eq_true rfl⟩ ⟨Nat.zero_le _, Nat.zero_le _⟩ rfl (by decide) (ci := 4) 0 rfl rfl rfl rfl rfl (Nat.le_of_ble_eq_true rfl) dX5_sheet_61 (fun _ => rfl) (fun zu3 zk3 => ?_)
        refine j_top (fcode 0) rfl ?_
        have ze : (sp_sheet (nI k) b n S) = bad S 0 := by unfold sp_sheet; simp [s_in hk, show pN (nI k) = k from nI_clamp (by omega), zc1, Int32.not_lt.mpr zc2, Int32.not_le.mp zc3]
        exact fin () _ _ _ _ dX5_sheet_64 rfl (by rw [ze] <;> rfl) (by rw [ze] <;> first | rfl | (simp only [stB, sB, sZ, sC, sF, sN, sP, uA_s, uA_s] <;> rfl)) trivial
    · skip
      refine j_aload_n 45 cx 1 dX5_sheet_45 rfl ?_
      refine j_ldc 46 cx (v := -1000000007) (List.mem_of_getElem? (i := 2) rfl) dX5_sheet_46 ?_
      refine j_callV_i 48 cx 1 [0, 1] [.int (fcode 6)] (fun _ => wXO o ax (sP S) ++ ([((ax 7), .inl (gI G, 7, .inl (upd (sF S) 6 ((sF S) 6 + 1))))] ++ ([((ax 6), .inl (gS G, 4, .inr (.inr (.inr (.inr (fun j => some (sh j)))))))] ++ (wSH (sh k) (nh k) (sB S k) (nI (sZ S k)) ++ [((nh k), .inl (gJ G, 40, .inr (.inl (sC S k))))])))) (c_X5_finding (kl K) G o ax (sP S) (sF S) 6 (by decide)) gX5_sheet_X5_finding rfl rfl rfl ⟨rfl, by decide, by decide, rfl⟩ ⟨Nat.le_of_ble_eq_true rfl, Nat.le_of_ble_eq_true rfl⟩ ⟨Nat.zero_le _, Nat.zero_le _⟩ rfl (by decide) (ci := 4) 0 rfl rfl rfl rfl rfl (Nat.le_of_ble_eq_true rfl) dX5_sheet_48 (fun _ => rfl) (fun zu4 zk4 => ?_)
      refine j_top (fcode 6) rfl ?_
      have ze : (sp_sheet (nI k) b n S) = bad S 6 := by unfold sp_sheet; simp [s_in hk, show pN (nI k) = k from nI_clamp (by omega), zc1, Int32.not_le.mp zc2]
      exact fin () _ _ _ _ dX5_sheet_51 rfl (by rw [ze] <;> rfl) (by rw [ze] <;> first | rfl | (simp only [stB, sB, sZ, sC, sF, sN, sP, uA_s, uA_s] <;> rfl)) trivial
  · skip
    refine j_iload_n 16 cx 3 dX5_sheet_16 rfl ?_
    refine j_bipush 17 cx 8 dX5_sheet_17 (by decide) ?_
    refine j_icmp_eq 19 cx 41 dX5_sheet_19 (by decide) (fun zc4 => ?_) (fun zc4 => ?_)
    · skip
      refine j_iload_n 41 cx 4 dX5_sheet_41 rfl ?_
      refine j_if_ge 42 cx 52 dX5_sheet_42 (by decide) (fun zc5 => ?_) (fun zc5 => ?_)
      · skip
        refine j_iload_n 52 cx 4 dX5_sheet_52 rfl ?_
        refine j_bipush 53 cx 40 dX5_sheet_53 (by decide) ?_
        refine j_icmp_le 55 cx 65 dX5_sheet_55 (by decide) (fun zc6 => ?_) (fun zc6 => ?_)
        · skip
          refine j_aload 65 cx 0 dX5_sheet_65 rfl ?_
          refine j_iload_n 67 cx 3 dX5_sheet_67 rfl ?_
          refine j_iload_n 68 cx 3 dX5_sheet_68 rfl ?_
          refine j_if_ne_T 69 cx 76 dX5_sheet_69 (by decide) zc1 ?_
          refine j_iload_n 76 cx 4 dX5_sheet_76 rfl ?_
          refine j_callV_v 77 cx 2 [3, 4] [.int b, .int n] (fun _ => wXO o ax (sP S) ++ ([((ax 7), .inl (gI G, 7, .inl (sF S)))] ++ ([((ax 6), .inl (gS G, 4, .inr (.inr (.inr (.inr (fun j => some (sh j)))))))] ++ (wSH (sh k) (nh k) b (mx0 (mnI 40 n)) ++ [((nh k), .inl (gJ G, 40, .inr (.inl (fun _ => 0))))])))) (c_X3_begin (kl K) G (sh k) (nh k) (sB S k) (nI (sZ S k)) (sC S k) b n) gX5_sheet_X3_begin rfl rfl rfl ⟨rfl, by decide, by decide, rfl⟩ ⟨Nat.le_of_ble_eq_true rfl, Nat.le_of_ble_eq_true rfl⟩ ⟨Nat.zero_le _, Nat.zero_le _⟩ rfl (by decide) (ci := 2) 0 rfl rfl rfl rfl rfl (Nat.le_of_ble_eq_true rfl) dX5_sheet_77 (fun _ => rfl) (fun zu5 zk5 => ?_)
          refine j_aload 80 cx 0 dX5_sheet_80 rfl ?_
          refine j_get 82 cx 3 2 (T := TX3) (v := .int ((mx0 (mnI 40 n)))) (fun _ h => List.mem_cons_of_mem _ (List.mem_append_left _ (List.mem_append_right _ (h)))) (List.mem_of_getElem? (i := 3) rfl) (ci := 2) rfl (by decide) rfl rfl rfl dX5_sheet_82 ?_
          have ze : (sp_sheet (nI k) b n S) = ((mx0 (mnI 40 n)), stB S (uA (sB S) k b) (uA (sZ S) k (pN n)) (uA (sC S) k (fun _ => 0))) := by rw [(mx_n zc5 zc6)]; unfold sp_sheet; simp [s_in hk, show pN (nI k) = k from nI_clamp (by omega), zc1, zc4, Int32.not_lt.mpr zc5, Int32.not_lt.mpr zc6]
          exact fin () _ _ _ _ dX5_sheet_85 rfl (by rw [ze] <;> rfl) (by rw [ze] <;> first | rfl | (simp only [stB, sB, sZ, sC, sF, sN, sP, uA_s, (mx_n zc5 zc6)] <;> rfl)) trivial
        · skip
          refine j_aload_n 58 cx 1 dX5_sheet_58 rfl ?_
          refine j_ldc 59 cx (v := -1000000001) (List.mem_of_getElem? (i := 1) rfl) dX5_sheet_59 ?_
          refine j_callV_i 61 cx 1 [0, 1] [.int (fcode 0)] (fun _ => wXO o ax (sP S) ++ ([((ax 7), .inl (gI G, 7, .inl (upd (sF S) 0 ((sF S) 0 + 1))))] ++ ([((ax 6), .inl (gS G, 4, .inr (.inr (.inr (.inr (fun j => some (sh j)))))))] ++ (wSH (sh k) (nh k) (sB S k) (nI (sZ S k)) ++ [((nh k), .inl (gJ G, 40, .inr (.inl (sC S k))))])))) (c_X5_finding (kl K) G o ax (sP S) (sF S) 0 (by decide)) gX5_sheet_X5_finding rfl rfl rfl ⟨rfl, by decide, by decide, rfl⟩ ⟨Nat.le_of_ble_eq_true rfl, Nat.le_of_ble_eq_true rfl⟩ ⟨Nat.zero_le _, Nat.zero_le _⟩ rfl (by decide) (ci := 4) 0 rfl rfl rfl rfl rfl (Nat.le_of_ble_eq_true rfl) dX5_sheet_61 (fun _ => rfl) (fun zu6 zk6 => ?_)
          refine j_top (fcode 0) rfl ?_
          have ze : (sp_sheet (nI k) b n S) = bad S 0 := by unfold sp_sheet; simp [s_in hk, show pN (nI k) = k from nI_clamp (by omega), zc1, zc4, Int32.not_lt.mpr zc5, Int32.not_le.mp zc6]
          exact fin () _ _ _ _ dX5_sheet_64 rfl (by rw [ze] <;> rfl) (by rw [ze] <;> first | rfl | (simp only [stB, sB, sZ, sC, sF, sN, sP, uA_s, uA_s] <;> rfl)) trivial
      · skip
        refine j_aload_n 45 cx 1 dX5_sheet_45 rfl ?_
        refine j_ldc 46 cx (v := -1000000007) (List.mem_of_getElem? (i := 2) rfl) dX5_sheet_46 ?_
        refine j_callV_i 48 cx 1 [0, 1] [.int (fcode 6)] (fun _ => wXO o ax (sP S) ++ ([((ax 7), .inl (gI G, 7, .inl (upd (sF S) 6 ((sF S) 6 + 1))))] ++ ([((ax 6), .inl (gS G, 4, .inr (.inr (.inr (.inr (fun j => some (sh j)))))))] ++ (wSH (sh k) (nh k) (sB S k) (nI (sZ S k)) ++ [((nh k), .inl (gJ G, 40, .inr (.inl (sC S k))))])))) (c_X5_finding (kl K) G o ax (sP S) (sF S) 6 (by decide)) gX5_sheet_X5_finding rfl rfl rfl ⟨rfl, by decide, by decide, rfl⟩ ⟨Nat.le_of_ble_eq_true rfl, Nat.le_of_ble_eq_true rfl⟩ ⟨Nat.zero_le _, Nat.zero_le _⟩ rfl (by decide) (ci := 4) 0 rfl rfl rfl rfl rfl (Nat.le_of_ble_eq_true rfl) dX5_sheet_48 (fun _ => rfl) (fun zu7 zk7 => ?_)
        refine j_top (fcode 6) rfl ?_
        have ze : (sp_sheet (nI k) b n S) = bad S 6 := by unfold sp_sheet; simp [s_in hk, show pN (nI k) = k from nI_clamp (by omega), zc1, zc4, Int32.not_le.mp zc5]
        exact fin () _ _ _ _ dX5_sheet_51 rfl (by rw [ze] <;> rfl) (by rw [ze] <;> first | rfl | (simp only [stB, sB, sZ, sC, sF, sN, sP, uA_s, uA_s] <;> rfl)) trivial
    · skip
      refine j_iload_n 22 cx 3 dX5_sheet_22 rfl ?_
      refine j_bipush 23 cx 16 dX5_sheet_23 (by decide) ?_
      refine j_icmp_eq 25 cx 41 dX5_sheet_25 (by decide) (fun zc7 => ?_) (fun zc7 => ?_)
      · skip
        refine j_iload_n 41 cx 4 dX5_sheet_41 rfl ?_
        refine j_if_ge 42 cx 52 dX5_sheet_42 (by decide) (fun zc8 => ?_) (fun zc8 => ?_)
        · skip
          refine j_iload_n 52 cx 4 dX5_sheet_52 rfl ?_
          refine j_bipush 53 cx 40 dX5_sheet_53 (by decide) ?_
          refine j_icmp_le 55 cx 65 dX5_sheet_55 (by decide) (fun zc9 => ?_) (fun zc9 => ?_)
          · skip
            refine j_aload 65 cx 0 dX5_sheet_65 rfl ?_
            refine j_iload_n 67 cx 3 dX5_sheet_67 rfl ?_
            refine j_iload_n 68 cx 3 dX5_sheet_68 rfl ?_
            refine j_if_ne_T 69 cx 76 dX5_sheet_69 (by decide) zc1 ?_
            refine j_iload_n 76 cx 4 dX5_sheet_76 rfl ?_
            refine j_callV_v 77 cx 2 [3, 4] [.int b, .int n] (fun _ => wXO o ax (sP S) ++ ([((ax 7), .inl (gI G, 7, .inl (sF S)))] ++ ([((ax 6), .inl (gS G, 4, .inr (.inr (.inr (.inr (fun j => some (sh j)))))))] ++ (wSH (sh k) (nh k) b (mx0 (mnI 40 n)) ++ [((nh k), .inl (gJ G, 40, .inr (.inl (fun _ => 0))))])))) (c_X3_begin (kl K) G (sh k) (nh k) (sB S k) (nI (sZ S k)) (sC S k) b n) gX5_sheet_X3_begin rfl rfl rfl ⟨rfl, by decide, by decide, rfl⟩ ⟨Nat.le_of_ble_eq_true rfl, Nat.le_of_ble_eq_true rfl⟩ ⟨Nat.zero_le _, Nat.zero_le _⟩ rfl (by decide) (ci := 2) 0 rfl rfl rfl rfl rfl (Nat.le_of_ble_eq_true rfl) dX5_sheet_77 (fun _ => rfl) (fun zu8 zk8 => ?_)
            refine j_aload 80 cx 0 dX5_sheet_80 rfl ?_
            refine j_get 82 cx 3 2 (T := TX3) (v := .int ((mx0 (mnI 40 n)))) (fun _ h => List.mem_cons_of_mem _ (List.mem_append_left _ (List.mem_append_right _ (h)))) (List.mem_of_getElem? (i := 3) rfl) (ci := 2) rfl (by decide) rfl rfl rfl dX5_sheet_82 ?_
            have ze : (sp_sheet (nI k) b n S) = ((mx0 (mnI 40 n)), stB S (uA (sB S) k b) (uA (sZ S) k (pN n)) (uA (sC S) k (fun _ => 0))) := by rw [(mx_n zc8 zc9)]; unfold sp_sheet; simp [s_in hk, show pN (nI k) = k from nI_clamp (by omega), zc1, zc4, zc7, Int32.not_lt.mpr zc8, Int32.not_lt.mpr zc9]
            exact fin () _ _ _ _ dX5_sheet_85 rfl (by rw [ze] <;> rfl) (by rw [ze] <;> first | rfl | (simp only [stB, sB, sZ, sC, sF, sN, sP, uA_s, (mx_n zc8 zc9)] <;> rfl)) trivial
          · skip
            refine j_aload_n 58 cx 1 dX5_sheet_58 rfl ?_
            refine j_ldc 59 cx (v := -1000000001) (List.mem_of_getElem? (i := 1) rfl) dX5_sheet_59 ?_
            refine j_callV_i 61 cx 1 [0, 1] [.int (fcode 0)] (fun _ => wXO o ax (sP S) ++ ([((ax 7), .inl (gI G, 7, .inl (upd (sF S) 0 ((sF S) 0 + 1))))] ++ ([((ax 6), .inl (gS G, 4, .inr (.inr (.inr (.inr (fun j => some (sh j)))))))] ++ (wSH (sh k) (nh k) (sB S k) (nI (sZ S k)) ++ [((nh k), .inl (gJ G, 40, .inr (.inl (sC S k))))])))) (c_X5_finding (kl K) G o ax (sP S) (sF S) 0 (by decide)) gX5_sheet_X5_finding rfl rfl rfl ⟨rfl, by decide, by decide, rfl⟩ ⟨Nat.le_of_ble_eq_true rfl, Nat.le_of_ble_eq_true rfl⟩ ⟨Nat.zero_le _, Nat.zero_le _⟩ rfl (by decide) (ci := 4) 0 rfl rfl rfl rfl rfl (Nat.le_of_ble_eq_true rfl) dX5_sheet_61 (fun _ => rfl) (fun zu9 zk9 => ?_)
            refine j_top (fcode 0) rfl ?_
            have ze : (sp_sheet (nI k) b n S) = bad S 0 := by unfold sp_sheet; simp [s_in hk, show pN (nI k) = k from nI_clamp (by omega), zc1, zc4, zc7, Int32.not_lt.mpr zc8, Int32.not_le.mp zc9]
            exact fin () _ _ _ _ dX5_sheet_64 rfl (by rw [ze] <;> rfl) (by rw [ze] <;> first | rfl | (simp only [stB, sB, sZ, sC, sF, sN, sP, uA_s, uA_s] <;> rfl)) trivial
        · skip
          refine j_aload_n 45 cx 1 dX5_sheet_45 rfl ?_
          refine j_ldc 46 cx (v := -1000000007) (List.mem_of_getElem? (i := 2) rfl) dX5_sheet_46 ?_
          refine j_callV_i 48 cx 1 [0, 1] [.int (fcode 6)] (fun _ => wXO o ax (sP S) ++ ([((ax 7), .inl (gI G, 7, .inl (upd (sF S) 6 ((sF S) 6 + 1))))] ++ ([((ax 6), .inl (gS G, 4, .inr (.inr (.inr (.inr (fun j => some (sh j)))))))] ++ (wSH (sh k) (nh k) (sB S k) (nI (sZ S k)) ++ [((nh k), .inl (gJ G, 40, .inr (.inl (sC S k))))])))) (c_X5_finding (kl K) G o ax (sP S) (sF S) 6 (by decide)) gX5_sheet_X5_finding rfl rfl rfl ⟨rfl, by decide, by decide, rfl⟩ ⟨Nat.le_of_ble_eq_true rfl, Nat.le_of_ble_eq_true rfl⟩ ⟨Nat.zero_le _, Nat.zero_le _⟩ rfl (by decide) (ci := 4) 0 rfl rfl rfl rfl rfl (Nat.le_of_ble_eq_true rfl) dX5_sheet_48 (fun _ => rfl) (fun zu10 zk10 => ?_)
          refine j_top (fcode 6) rfl ?_
          have ze : (sp_sheet (nI k) b n S) = bad S 6 := by unfold sp_sheet; simp [s_in hk, show pN (nI k) = k from nI_clamp (by omega), zc1, zc4, zc7, Int32.not_le.mp zc8]
          exact fin () _ _ _ _ dX5_sheet_51 rfl (by rw [ze] <;> rfl) (by rw [ze] <;> first | rfl | (simp only [stB, sB, sZ, sC, sF, sN, sP, uA_s, uA_s] <;> rfl)) trivial
      · skip
        refine j_iload_n 28 cx 3 dX5_sheet_28 rfl ?_
        refine j_bipush 29 cx 64 dX5_sheet_29 (by decide) ?_
        refine j_icmp_eq 31 cx 41 dX5_sheet_31 (by decide) (fun zc10 => ?_) (fun zc10 => ?_)
        · skip
          refine j_iload_n 41 cx 4 dX5_sheet_41 rfl ?_
          refine j_if_ge 42 cx 52 dX5_sheet_42 (by decide) (fun zc11 => ?_) (fun zc11 => ?_)
          · skip
            refine j_iload_n 52 cx 4 dX5_sheet_52 rfl ?_
            refine j_bipush 53 cx 40 dX5_sheet_53 (by decide) ?_
            refine j_icmp_le 55 cx 65 dX5_sheet_55 (by decide) (fun zc12 => ?_) (fun zc12 => ?_)
            · skip
              refine j_aload 65 cx 0 dX5_sheet_65 rfl ?_
              refine j_iload_n 67 cx 3 dX5_sheet_67 rfl ?_
              refine j_iload_n 68 cx 3 dX5_sheet_68 rfl ?_
              refine j_if_ne_T 69 cx 76 dX5_sheet_69 (by decide) zc1 ?_
              refine j_iload_n 76 cx 4 dX5_sheet_76 rfl ?_
              refine j_callV_v 77 cx 2 [3, 4] [.int b, .int n] (fun _ => wXO o ax (sP S) ++ ([((ax 7), .inl (gI G, 7, .inl (sF S)))] ++ ([((ax 6), .inl (gS G, 4, .inr (.inr (.inr (.inr (fun j => some (sh j)))))))] ++ (wSH (sh k) (nh k) b (mx0 (mnI 40 n)) ++ [((nh k), .inl (gJ G, 40, .inr (.inl (fun _ => 0))))])))) (c_X3_begin (kl K) G (sh k) (nh k) (sB S k) (nI (sZ S k)) (sC S k) b n) gX5_sheet_X3_begin rfl rfl rfl ⟨rfl, by decide, by decide, rfl⟩ ⟨Nat.le_of_ble_eq_true rfl, Nat.le_of_ble_eq_true rfl⟩ ⟨Nat.zero_le _, Nat.zero_le _⟩ rfl (by decide) (ci := 2) 0 rfl rfl rfl rfl rfl (Nat.le_of_ble_eq_true rfl) dX5_sheet_77 (fun _ => rfl) (fun zu11 zk11 => ?_)
              refine j_aload 80 cx 0 dX5_sheet_80 rfl ?_
              refine j_get 82 cx 3 2 (T := TX3) (v := .int ((mx0 (mnI 40 n)))) (fun _ h => List.mem_cons_of_mem _ (List.mem_append_left _ (List.mem_append_right _ (h)))) (List.mem_of_getElem? (i := 3) rfl) (ci := 2) rfl (by decide) rfl rfl rfl dX5_sheet_82 ?_
              have ze : (sp_sheet (nI k) b n S) = ((mx0 (mnI 40 n)), stB S (uA (sB S) k b) (uA (sZ S) k (pN n)) (uA (sC S) k (fun _ => 0))) := by rw [(mx_n zc11 zc12)]; unfold sp_sheet; simp [s_in hk, show pN (nI k) = k from nI_clamp (by omega), zc1, zc4, zc7, zc10, Int32.not_lt.mpr zc11, Int32.not_lt.mpr zc12]
              exact fin () _ _ _ _ dX5_sheet_85 rfl (by rw [ze] <;> rfl) (by rw [ze] <;> first | rfl | (simp only [stB, sB, sZ, sC, sF, sN, sP, uA_s, (mx_n zc11 zc12)] <;> rfl)) trivial
            · skip
              refine j_aload_n 58 cx 1 dX5_sheet_58 rfl ?_
              refine j_ldc 59 cx (v := -1000000001) (List.mem_of_getElem? (i := 1) rfl) dX5_sheet_59 ?_
              refine j_callV_i 61 cx 1 [0, 1] [.int (fcode 0)] (fun _ => wXO o ax (sP S) ++ ([((ax 7), .inl (gI G, 7, .inl (upd (sF S) 0 ((sF S) 0 + 1))))] ++ ([((ax 6), .inl (gS G, 4, .inr (.inr (.inr (.inr (fun j => some (sh j)))))))] ++ (wSH (sh k) (nh k) (sB S k) (nI (sZ S k)) ++ [((nh k), .inl (gJ G, 40, .inr (.inl (sC S k))))])))) (c_X5_finding (kl K) G o ax (sP S) (sF S) 0 (by decide)) gX5_sheet_X5_finding rfl rfl rfl ⟨rfl, by decide, by decide, rfl⟩ ⟨Nat.le_of_ble_eq_true rfl, Nat.le_of_ble_eq_true rfl⟩ ⟨Nat.zero_le _, Nat.zero_le _⟩ rfl (by decide) (ci := 4) 0 rfl rfl rfl rfl rfl (Nat.le_of_ble_eq_true rfl) dX5_sheet_61 (fun _ => rfl) (fun zu12 zk12 => ?_)
              refine j_top (fcode 0) rfl ?_
              have ze : (sp_sheet (nI k) b n S) = bad S 0 := by unfold sp_sheet; simp [s_in hk, show pN (nI k) = k from nI_clamp (by omega), zc1, zc4, zc7, zc10, Int32.not_lt.mpr zc11, Int32.not_le.mp zc12]
              exact fin () _ _ _ _ dX5_sheet_64 rfl (by rw [ze] <;> rfl) (by rw [ze] <;> first | rfl | (simp only [stB, sB, sZ, sC, sF, sN, sP, uA_s, uA_s] <;> rfl)) trivial
          · skip
            refine j_aload_n 45 cx 1 dX5_sheet_45 rfl ?_
            refine j_ldc 46 cx (v := -1000000007) (List.mem_of_getElem? (i := 2) rfl) dX5_sheet_46 ?_
            refine j_callV_i 48 cx 1 [0, 1] [.int (fcode 6)] (fun _ => wXO o ax (sP S) ++ ([((ax 7), .inl (gI G, 7, .inl (upd (sF S) 6 ((sF S) 6 + 1))))] ++ ([((ax 6), .inl (gS G, 4, .inr (.inr (.inr (.inr (fun j => some (sh j)))))))] ++ (wSH (sh k) (nh k) (sB S k) (nI (sZ S k)) ++ [((nh k), .inl (gJ G, 40, .inr (.inl (sC S k))))])))) (c_X5_finding (kl K) G o ax (sP S) (sF S) 6 (by decide)) gX5_sheet_X5_finding rfl rfl rfl ⟨rfl, by decide, by decide, rfl⟩ ⟨Nat.le_of_ble_eq_true rfl, Nat.le_of_ble_eq_true rfl⟩ ⟨Nat.zero_le _, Nat.zero_le _⟩ rfl (by decide) (ci := 4) 0 rfl rfl rfl rfl rfl (Nat.le_of_ble_eq_true rfl) dX5_sheet_48 (fun _ => rfl) (fun zu13 zk13 => ?_)
            refine j_top (fcode 6) rfl ?_
            have ze : (sp_sheet (nI k) b n S) = bad S 6 := by unfold sp_sheet; simp [s_in hk, show pN (nI k) = k from nI_clamp (by omega), zc1, zc4, zc7, zc10, Int32.not_le.mp zc11]
            exact fin () _ _ _ _ dX5_sheet_51 rfl (by rw [ze] <;> rfl) (by rw [ze] <;> first | rfl | (simp only [stB, sB, sZ, sC, sF, sN, sP, uA_s, uA_s] <;> rfl)) trivial
        · skip
          refine j_aload_n 34 cx 1 dX5_sheet_34 rfl ?_
          refine j_ldc 35 cx (v := -1000000001) (List.mem_of_getElem? (i := 1) rfl) dX5_sheet_35 ?_
          refine j_callV_i 37 cx 1 [0, 1] [.int (fcode 0)] (fun _ => wXO o ax (sP S) ++ ([((ax 7), .inl (gI G, 7, .inl (upd (sF S) 0 ((sF S) 0 + 1))))] ++ ([((ax 6), .inl (gS G, 4, .inr (.inr (.inr (.inr (fun j => some (sh j)))))))] ++ (wSH (sh k) (nh k) (sB S k) (nI (sZ S k)) ++ [((nh k), .inl (gJ G, 40, .inr (.inl (sC S k))))])))) (c_X5_finding (kl K) G o ax (sP S) (sF S) 0 (by decide)) gX5_sheet_X5_finding rfl rfl rfl ⟨rfl, by decide, by decide, rfl⟩ ⟨Nat.le_of_ble_eq_true rfl, Nat.le_of_ble_eq_true rfl⟩ ⟨Nat.zero_le _, Nat.zero_le _⟩ rfl (by decide) (ci := 4) 0 rfl rfl rfl rfl rfl (Nat.le_of_ble_eq_true rfl) dX5_sheet_37 (fun _ => rfl) (fun zu14 zk14 => ?_)
          refine j_top (fcode 0) rfl ?_
          have ze : (sp_sheet (nI k) b n S) = bad S 0 := by unfold sp_sheet; simp [s_in hk, show pN (nI k) = k from nI_clamp (by omega), zc1, zc4, zc7, zc10]
          exact fin () _ _ _ _ dX5_sheet_40 rfl (by rw [ze] <;> rfl) (by rw [ze] <;> first | rfl | (simp only [stB, sB, sZ, sC, sF, sN, sP, uA_s, uA_s] <;> rfl)) trivial
