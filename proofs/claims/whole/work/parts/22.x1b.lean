set_option maxRecDepth 100000 in
set_option maxHeartbeats 4000000 in
theorem c_X1_play (l : Launch) (G : pG) (o : Nat) (q : Nat → Nat) (σ : Nu) (p : Nat) (hI : Inv σ) (hp : p < 8) : KV l G yX1_play wsX1_play ({ frames := 3, cells := 0, slots := 0, locals := 67 } : Room) [.ref o, .int (nI p)] (wN G o q σ) (S := Unit) (fun _ => True) (fun u => wN G o q (playF σ p)) := by
  refine kv_of [(0, .ref o), (1, .int (nI p))] (own := RX1) (cc := cX1_play) (nL := 2) (by decide +kernel) rfl rfl (Nat.le_of_ble_eq_true rfl) rfl (fun _ => rfl) (fun K cx fin => ?_)
  refine j_aload_n 0 cx 0 dX1_play_0 rfl ?_
  refine j_get 1 cx 0 7 (T := TX1) (v := .ref (q 4)) (fun _ h => List.mem_cons_of_mem _ (List.mem_append_right _ (h))) (List.mem_of_getElem? (i := 1) rfl) (ci := 0) rfl (by decide) rfl rfl rfl dX1_play_1 ?_
  refine j_iload_n 4 cx 1 dX1_play_4 rfl ?_
  refine j_sipush 5 cx 9999 dX1_play_5 (by decide) ?_
  refine j_aload_n 8 cx 0 dX1_play_8 rfl ?_
  refine j_get 9 cx 0 7 (T := TX1) (v := .ref (q 4)) (fun _ h => List.mem_cons_of_mem _ (List.mem_append_right _ (h))) (List.mem_of_getElem? (i := 1) rfl) (ci := 0) rfl (by decide) rfl rfl rfl dX1_play_9 ?_
  refine j_iload_n 12 cx 1 dX1_play_12 rfl ?_
  refine j_iald 13 cx 4 p rfl rfl (by omega) (by decide) dX1_play_13 ?_
  refine j_aload_n 14 cx 0 dX1_play_14 rfl ?_
  refine j_iload_n 15 cx 1 dX1_play_15 rfl ?_
  refine j_callV_i 16 cx 1 [0, 1, 2, 3, 4, 5, 6] [.int (nI p)] (fun _ => wN G o q σ) (c_X1_gives (kl K) G o q σ p hI (by omega)) gX1_play_X1_gives rfl rfl rfl ⟨rfl, by decide, by decide, rfl⟩ ⟨Nat.le_of_ble_eq_true rfl, Nat.le_of_ble_eq_true rfl⟩ ⟨Nat.zero_le _, Nat.zero_le _⟩ rfl (by decide) (ci := 0) 0 rfl rfl rfl rfl rfl (Nat.le_of_ble_eq_true rfl) dX1_play_16 (fun _ => rfl) (fun zu1 zk1 => ?_)
  refine j_top (giveF σ p) rfl ?_
  refine j_iadd 19 cx dX1_play_19 ?_
  refine j_min 20 cx (List.mem_of_getElem? (i := 2) rfl) (List.mem_of_getElem? (i := 3) rfl) (List.mem_of_getElem? (i := 4) rfl) (List.mem_of_getElem? (i := 5) rfl) (by decide) (Nat.le_of_ble_eq_true rfl) (Nat.zero_le _) (Nat.zero_le _) dX1_play_20 ?_
  refine j_top (mnI 9999 ((σ 4 p) + (giveF σ p))) rfl ?_
  refine j_iast 23 cx 4 p (wN G o q (up2 σ 4 p (mnI 9999 ((σ 4 p) + (giveF σ p))))) rfl rfl (by omega) (by decide) rfl dX1_play_23 ?_
  refine j_aload_n 24 cx 0 dX1_play_24 rfl ?_
  refine j_iconst 25 cx 0 dX1_play_25 (by decide) ?_
  refine j_bipush 26 cx 99 dX1_play_26 (by decide) ?_
  refine j_aload_n 28 cx 0 dX1_play_28 rfl ?_
  refine j_get 29 cx 0 1 (T := TX1) (v := .int (σ 0 1)) (fun _ h => List.mem_cons_of_mem _ (List.mem_append_right _ (h))) (List.mem_of_getElem? (i := 6) rfl) (ci := 0) rfl (by decide) rfl rfl rfl dX1_play_29 ?_
  refine j_aload_n 32 cx 0 dX1_play_32 rfl ?_
  refine j_iload_n 33 cx 1 dX1_play_33 rfl ?_
  refine j_callV_i 34 cx 1 [0, 1, 2, 3, 4, 5, 6] [.int (nI p)] (fun _ => wN G o q (up2 σ 4 p (mnI 9999 ((σ 4 p) + (giveF σ p))))) (c_X1_tires (kl K) G o q (up2 σ 4 p (mnI 9999 ((σ 4 p) + (giveF σ p)))) p  (by omega)) gX1_play_X1_tires rfl rfl rfl ⟨rfl, by decide, by decide, rfl⟩ ⟨Nat.le_of_ble_eq_true rfl, Nat.le_of_ble_eq_true rfl⟩ ⟨Nat.zero_le _, Nat.zero_le _⟩ rfl (by decide) (ci := 0) 0 rfl rfl rfl rfl rfl (Nat.le_of_ble_eq_true rfl) dX1_play_34 (fun _ => rfl) (fun zu2 zk2 => ?_)
  refine j_top (kTires (σ 2 p)) rfl ?_
  refine j_iadd 37 cx dX1_play_37 ?_
  refine j_min 38 cx (List.mem_of_getElem? (i := 2) rfl) (List.mem_of_getElem? (i := 3) rfl) (List.mem_of_getElem? (i := 4) rfl) (List.mem_of_getElem? (i := 5) rfl) (by decide) (Nat.le_of_ble_eq_true rfl) (Nat.zero_le _) (Nat.zero_le _) dX1_play_38 ?_
  refine j_top (mnI 99 ((σ 0 1) + (kTires (σ 2 p)))) rfl ?_
  refine j_max 41 cx (List.mem_of_getElem? (i := 7) rfl) (List.mem_of_getElem? (i := 8) rfl) (List.mem_of_getElem? (i := 4) rfl) (List.mem_of_getElem? (i := 9) rfl) (by decide) (Nat.le_of_ble_eq_true rfl) (Nat.zero_le _) (Nat.zero_le _) dX1_play_41 ?_
  refine j_top (mx0 (mnI 99 ((σ 0 1) + (kTires (σ 2 p))))) rfl ?_
  refine j_put 44 cx 0 1 (wN G o q (up2 (up2 σ 4 p (mnI 9999 ((σ 4 p) + (giveF σ p)))) 0 1 (mx0 (mnI 99 ((σ 0 1) + (kTires (σ 2 p))))))) (T := TX1) (ty0 := tyX1) (fun _ h => List.mem_cons_of_mem _ (List.mem_append_right _ (h))) (List.mem_of_getElem? (i := 6) rfl) (ci := 0) rfl (by decide) rfl tyX1_ok nmX1 rfl rfl rfl rfl (Nat.le_of_ble_eq_true rfl) rfl dX1_play_44 ?_
  refine j_aload_n 47 cx 0 dX1_play_47 rfl ?_
  refine j_iload_n 48 cx 1 dX1_play_48 rfl ?_
  refine j_callV_i 49 cx 1 [0, 1, 2, 3, 4, 5, 6] [.int (nI p)] (fun _ => wN G o q (up2 (up2 σ 4 p (mnI 9999 ((σ 4 p) + (giveF σ p)))) 0 1 (mx0 (mnI 99 ((σ 0 1) + (kTires (σ 2 p))))))) (c_X1_isDone (kl K) G o q (up2 (up2 σ 4 p (mnI 9999 ((σ 4 p) + (giveF σ p)))) 0 1 (mx0 (mnI 99 ((σ 0 1) + (kTires (σ 2 p)))))) p  (by omega)) gX1_play_X1_isDone rfl rfl rfl ⟨rfl, by decide, by decide, rfl⟩ ⟨Nat.le_of_ble_eq_true rfl, Nat.le_of_ble_eq_true rfl⟩ ⟨Nat.zero_le _, Nat.zero_le _⟩ rfl (by decide) (ci := 0) 0 rfl rfl rfl rfl rfl (Nat.le_of_ble_eq_true rfl) dX1_play_49 (fun _ => rfl) (fun zu3 zk3 => ?_)
  refine j_top (bI (done (up2 (up2 σ 4 p (mnI 9999 ((σ 4 p) + (giveF σ p)))) 0 1 (mx0 (mnI 99 ((σ 0 1) + (kTires (σ 2 p)))))) p)) rfl ?_
  refine j_ifB_eq 52 cx 84 dX1_play_52 (by decide) (fun zc1 => ?_) (fun zc1 => ?_)
  · skip
    exact fin () _ _ _ dX1_play_84 (congrArg (wN G o q) (by unfold playF; exact (if_neg (fun h => by rw [zc1] at h; cases h.1)).symm)) trivial
  · skip
    refine j_aload_n 55 cx 0 dX1_play_55 rfl ?_
    refine j_get 56 cx 0 0 (T := TX1) (v := .int (σ 0 0)) (fun _ h => List.mem_cons_of_mem _ (List.mem_append_right _ (h))) (List.mem_of_getElem? (i := 10) rfl) (ci := 0) rfl (by decide) rfl rfl rfl dX1_play_56 ?_
    refine j_aload_n 59 cx 0 dX1_play_59 rfl ?_
    refine j_get 60 cx 0 8 (T := TX1) (v := .ref (q 5)) (fun _ h => List.mem_cons_of_mem _ (List.mem_append_right _ (h))) (List.mem_of_getElem? (i := 11) rfl) (ci := 0) rfl (by decide) rfl rfl rfl dX1_play_60 ?_
    refine j_iload_n 63 cx 1 dX1_play_63 rfl ?_
    refine j_iald 64 cx 5 p rfl rfl (by omega) (by decide) dX1_play_64 ?_
    refine j_icmp_le 65 cx 84 dX1_play_65 (by decide) (fun zc2 => ?_) (fun zc2 => ?_)
    · skip
      exact fin () _ _ _ dX1_play_84 (congrArg (wN G o q) (by unfold playF; exact (if_neg (fun h => absurd h.2 (Int32.not_lt.mpr zc2))).symm)) trivial
    · skip
      refine j_aload_n 68 cx 0 dX1_play_68 rfl ?_
      refine j_sipush 69 cx 9999 dX1_play_69 (by decide) ?_
      refine j_aload_n 72 cx 0 dX1_play_72 rfl ?_
      refine j_get 73 cx 0 2 (T := TX1) (v := .int (σ 0 2)) (fun _ h => List.mem_cons_of_mem _ (List.mem_append_right _ (h))) (List.mem_of_getElem? (i := 12) rfl) (ci := 0) rfl (by decide) rfl rfl rfl dX1_play_73 ?_
      refine j_iconst 76 cx 1 dX1_play_76 (by decide) ?_
      refine j_iadd 77 cx dX1_play_77 ?_
      refine j_min 78 cx (List.mem_of_getElem? (i := 2) rfl) (List.mem_of_getElem? (i := 3) rfl) (List.mem_of_getElem? (i := 4) rfl) (List.mem_of_getElem? (i := 5) rfl) (by decide) (Nat.le_of_ble_eq_true rfl) (Nat.zero_le _) (Nat.zero_le _) dX1_play_78 ?_
      refine j_top (mnI 9999 ((σ 0 2) + 1)) rfl ?_
      refine j_put 81 cx 0 2 (wN G o q (up2 (up2 (up2 σ 4 p (mnI 9999 ((σ 4 p) + (giveF σ p)))) 0 1 (mx0 (mnI 99 ((σ 0 1) + (kTires (σ 2 p)))))) 0 2 (mnI 9999 ((σ 0 2) + 1)))) (T := TX1) (ty0 := tyX1) (fun _ h => List.mem_cons_of_mem _ (List.mem_append_right _ (h))) (List.mem_of_getElem? (i := 12) rfl) (ci := 0) rfl (by decide) rfl tyX1_ok nmX1 rfl rfl rfl rfl (Nat.le_of_ble_eq_true rfl) rfl dX1_play_81 ?_
      exact fin () _ _ _ dX1_play_84 (congrArg (wN G o q) (by unfold playF; exact (if_pos ⟨zc1, Int32.not_le.mp zc2⟩).symm)) trivial
set_option maxRecDepth 100000 in
set_option maxHeartbeats 4000000 in
theorem c_X1_passDay_none (l : Launch) (G : pG) (o : Nat) (q : Nat → Nat) (σ : Nu) (hI : Inv σ) (hL : loud σ = none) : KI l G yX1_passDay wsX1_passDay ({ frames := 4, cells := 0, slots := 0, locals := 96 } : Room) [.ref o] (wN G o q σ) (S := Unit) (fun _ => True) (fun u => oI (loud σ)) (fun u => wN G o q (dayF σ)) := by
  have h8 := hI.sz8
  refine ki_of [(0, .ref o)] (own := RX1) (cc := cX1_passDay) (nL := 3) (by decide +kernel) rfl rfl (Nat.le_of_ble_eq_true rfl) rfl (fun _ => rfl) (fun K cx fin => ?_)
  refine j_aload_n 0 cx 0 dX1_passDay_0 rfl ?_
  refine j_callV_i 1 cx 0 [0, 1, 2, 3, 4, 5, 6] [] (fun _ => wN G o q σ) (c_X1_loudest (kl K) G o q σ hI) gX1_passDay_X1_loudest rfl rfl rfl ⟨rfl, by decide, by decide, rfl⟩ ⟨Nat.le_of_ble_eq_true rfl, Nat.le_of_ble_eq_true rfl⟩ ⟨Nat.zero_le _, Nat.zero_le _⟩ rfl (by decide) (ci := 0) 0 rfl rfl rfl rfl rfl (Nat.le_of_ble_eq_true rfl) dX1_passDay_1 (fun _ => rfl) (fun zu1 zk1 => ?_)
  refine j_top (oI (loud σ)) rfl ?_
  refine j_top ((-1)) (by rw [hL]; rfl) ?_
  refine j_istore_n 4 cx [(1, .int ((-1))), (0, .ref o)] dX1_passDay_4 (by decide) rfl ?_
  refine j_iload_n 5 cx 0 dX1_passDay_5 rfl ?_
  refine j_if_lt_T 6 cx 17 dX1_passDay_6 (by decide) (by decide) ?_
  refine j_aload_n 17 cx 1 dX1_passDay_17 rfl ?_
  refine j_iconst 18 cx 0 dX1_passDay_18 (by decide) ?_
  refine j_aload_n 19 cx 1 dX1_passDay_19 rfl ?_
  refine j_get 20 cx 0 1 (T := TX1) (v := .int (σ 0 1)) (fun _ h => List.mem_cons_of_mem _ (List.mem_append_right _ (h))) (List.mem_of_getElem? (i := 1) rfl) (ci := 0) rfl (by decide) rfl rfl rfl dX1_passDay_20 ?_
  refine j_bipush 23 cx 10 dX1_passDay_23 (by decide) ?_
  refine j_isub 25 cx dX1_passDay_25 ?_
  refine j_max 26 cx (List.mem_of_getElem? (i := 2) rfl) (List.mem_of_getElem? (i := 3) rfl) (List.mem_of_getElem? (i := 4) rfl) (List.mem_of_getElem? (i := 5) rfl) (by decide) (Nat.le_of_ble_eq_true rfl) (Nat.zero_le _) (Nat.zero_le _) dX1_passDay_26 ?_
  refine j_top (mx0 ((σ 0 1) - 10)) rfl ?_
  refine j_put 29 cx 0 1 (wN G o q (up2 σ 0 1 (mx0 ((σ 0 1) - 10)))) (T := TX1) (ty0 := tyX1) (fun _ h => List.mem_cons_of_mem _ (List.mem_append_right _ (h))) (List.mem_of_getElem? (i := 1) rfl) (ci := 0) rfl (by decide) rfl tyX1_ok nmX1 rfl rfl rfl rfl (Nat.le_of_ble_eq_true rfl) rfl dX1_passDay_29 ?_
  refine j_ws (wN G o q (tireF σ)) (congrArg (wN G o q) (tireF_none hL).symm) ?_
  refine j_aload_n 32 cx 1 dX1_passDay_32 rfl ?_
  refine j_callV_i 33 cx 0 [0, 1, 2, 3, 4, 5, 6] [] (fun _ => wN G o q (tireF σ)) (c_X1_isHoliday (kl K) G o q (tireF σ) (inv_tireF hI).dy (inv_tireF hI).dyM) gX1_passDay_X1_isHoliday rfl rfl rfl ⟨rfl, by decide, by decide, rfl⟩ ⟨Nat.le_of_ble_eq_true rfl, Nat.le_of_ble_eq_true rfl⟩ ⟨Nat.zero_le _, Nat.zero_le _⟩ rfl (by decide) (ci := 0) 0 rfl rfl rfl rfl rfl (Nat.le_of_ble_eq_true rfl) dX1_passDay_33 (fun _ => rfl) (fun zu2 zk2 => ?_)
  refine j_top (bI (hol (tireF σ))) rfl ?_
  refine j_ifB_eq 36 cx 53 dX1_passDay_36 (by decide) (fun zc1 => ?_) (fun zc1 => ?_)
  · skip
    refine j_ws (wN G o q (holF (tireF σ))) (congrArg (wN G o q) (holF_f zc1).symm) ?_
    refine j_iconst 53 cx 0 dX1_passDay_53 (by decide) ?_
    refine j_istore_n 54 cx [(2, .int 0), (1, .int ((-1))), (0, .ref o)] dX1_passDay_54 (by decide) rfl ?_
    have L55 : ∀ d : Nat, ∀ (k : Nat), (k + d = szN σ) → JJ G K 0 0 (wN G o q (offF (holF (tireF σ)) k)) [(2, .int (nI k)), (1, .int ((-1))), (0, .ref o)] 55 [] := by
      intro d
      induction d with
      | zero =>
        intro k hk
        refine j_iload_n 55 cx 0 dX1_passDay_55 rfl ?_
        refine j_aload_n 56 cx 2 dX1_passDay_56 rfl ?_
        refine j_get 57 cx 0 3 (T := TX1) (v := .int ((offF (holF (tireF σ)) k) 0 3)) (fun _ h => List.mem_cons_of_mem _ (List.mem_append_right _ (h))) (List.mem_of_getElem? (i := 6) rfl) (ci := 0) rfl (by decide) rfl rfl rfl dX1_passDay_57 ?_
        refine j_top (nI (szN σ)) ((ht_size σ k).trans hI.sz) ?_
        refine j_icmp_ge_T 60 cx 87 dX1_passDay_60 (by decide) (nI_le (by omega) (by omega)) ?_
        refine j_aload_n 87 cx 2 dX1_passDay_87 rfl ?_
        refine j_dup 88 cx dX1_passDay_88 rfl ?_
        refine j_get 89 cx 0 0 (T := TX1) (v := .int ((offF (holF (tireF σ)) k) 0 0)) (fun _ h => List.mem_cons_of_mem _ (List.mem_append_right _ (h))) (List.mem_of_getElem? (i := 8) rfl) (ci := 0) rfl (by decide) rfl rfl rfl dX1_passDay_89 ?_
        refine j_iconst 92 cx 1 dX1_passDay_92 (by decide) ?_
        refine j_iadd 93 cx dX1_passDay_93 ?_
        refine j_put 94 cx 0 0 (wN G o q (up2 (offF (holF (tireF σ)) k) 0 0 (((offF (holF (tireF σ)) k) 0 0) + 1))) (T := TX1) (ty0 := tyX1) (fun _ h => List.mem_cons_of_mem _ (List.mem_append_right _ (h))) (List.mem_of_getElem? (i := 8) rfl) (ci := 0) rfl (by decide) rfl tyX1_ok nmX1 rfl rfl rfl rfl (Nat.le_of_ble_eq_true rfl) rfl dX1_passDay_94 ?_
        refine j_iload_n 97 cx 1 dX1_passDay_97 rfl ?_
        exact fin () _ _ _ _ dX1_passDay_98 rfl (by rw [hL]; rfl) (congrArg (wN G o q) (by rw [show k = szN σ from by omega, dayF, ht_day])) trivial
      | succ d ih55 =>
        intro k hk
        refine j_iload_n 55 cx 0 dX1_passDay_55 rfl ?_
        refine j_aload_n 56 cx 2 dX1_passDay_56 rfl ?_
        refine j_get 57 cx 0 3 (T := TX1) (v := .int ((offF (holF (tireF σ)) k) 0 3)) (fun _ h => List.mem_cons_of_mem _ (List.mem_append_right _ (h))) (List.mem_of_getElem? (i := 6) rfl) (ci := 0) rfl (by decide) rfl rfl rfl dX1_passDay_57 ?_
        refine j_top (nI (szN σ)) ((ht_size σ k).trans hI.sz) ?_
        refine j_icmp_ge_F 60 cx 87 dX1_passDay_60 (by decide) (nI_ge (by omega) (by omega)) ?_
        refine j_aload_n 63 cx 2 dX1_passDay_63 rfl ?_
        refine j_get 64 cx 0 9 (T := TX1) (v := .ref (q 6)) (fun _ h => List.mem_cons_of_mem _ (List.mem_append_right _ (h))) (List.mem_of_getElem? (i := 7) rfl) (ci := 0) rfl (by decide) rfl rfl rfl dX1_passDay_64 ?_
        refine j_iload_n 67 cx 0 dX1_passDay_67 rfl ?_
        refine j_iconst 68 cx 0 dX1_passDay_68 (by decide) ?_
        refine j_aload_n 69 cx 2 dX1_passDay_69 rfl ?_
        refine j_get 70 cx 0 9 (T := TX1) (v := .ref (q 6)) (fun _ h => List.mem_cons_of_mem _ (List.mem_append_right _ (h))) (List.mem_of_getElem? (i := 7) rfl) (ci := 0) rfl (by decide) rfl rfl rfl dX1_passDay_70 ?_
        refine j_iload_n 73 cx 0 dX1_passDay_73 rfl ?_
        refine j_iald 74 cx 6 k rfl rfl (by omega) (by decide) dX1_passDay_74 ?_
        refine j_iconst 75 cx 1 dX1_passDay_75 (by decide) ?_
        refine j_isub 76 cx dX1_passDay_76 ?_
        refine j_max 77 cx (List.mem_of_getElem? (i := 2) rfl) (List.mem_of_getElem? (i := 3) rfl) (List.mem_of_getElem? (i := 4) rfl) (List.mem_of_getElem? (i := 5) rfl) (by decide) (Nat.le_of_ble_eq_true rfl) (Nat.zero_le _) (Nat.zero_le _) dX1_passDay_77 ?_
        refine j_top (mx0 (((offF (holF (tireF σ)) k) 6 k) - 1)) rfl ?_
        refine j_iast 80 cx 6 k (wN G o q (up2 (offF (holF (tireF σ)) k) 6 k (mx0 (((offF (holF (tireF σ)) k) 6 k) - 1)))) rfl rfl (by omega) (by decide) rfl dX1_passDay_80 ?_
        refine j_iinc 81 cx [(2, .int (nI (k + 1))), (1, .int ((-1))), (0, .ref o)] 0 (nI (k + 1)) dX1_passDay_81 rfl (iinc1 k) (by decide) rfl ?_
        refine j_goto 84 cx 55 dX1_passDay_84 (by decide) ?_
        have h9 := ih55 (k + 1)  (by omega)
        exact h9
    exact L55 (szN σ) 0 (by omega)
  · skip
    refine j_aload_n 39 cx 1 dX1_passDay_39 rfl ?_
    refine j_iconst 40 cx 0 dX1_passDay_40 (by decide) ?_
    refine j_aload_n 41 cx 1 dX1_passDay_41 rfl ?_
    refine j_get 42 cx 0 1 (T := TX1) (v := .int ((tireF σ) 0 1)) (fun _ h => List.mem_cons_of_mem _ (List.mem_append_right _ (h))) (List.mem_of_getElem? (i := 1) rfl) (ci := 0) rfl (by decide) rfl rfl rfl dX1_passDay_42 ?_
    refine j_iconst 45 cx 4 dX1_passDay_45 (by decide) ?_
    refine j_isub 46 cx dX1_passDay_46 ?_
    refine j_max 47 cx (List.mem_of_getElem? (i := 2) rfl) (List.mem_of_getElem? (i := 3) rfl) (List.mem_of_getElem? (i := 4) rfl) (List.mem_of_getElem? (i := 5) rfl) (by decide) (Nat.le_of_ble_eq_true rfl) (Nat.zero_le _) (Nat.zero_le _) dX1_passDay_47 ?_
    refine j_top (mx0 (((tireF σ) 0 1) - 4)) rfl ?_
    refine j_put 50 cx 0 1 (wN G o q (up2 (tireF σ) 0 1 (mx0 (((tireF σ) 0 1) - 4)))) (T := TX1) (ty0 := tyX1) (fun _ h => List.mem_cons_of_mem _ (List.mem_append_right _ (h))) (List.mem_of_getElem? (i := 1) rfl) (ci := 0) rfl (by decide) rfl tyX1_ok nmX1 rfl rfl rfl rfl (Nat.le_of_ble_eq_true rfl) rfl dX1_passDay_50 ?_
    refine j_ws (wN G o q (holF (tireF σ))) (congrArg (wN G o q) (holF_t zc1).symm) ?_
    refine j_iconst 53 cx 0 dX1_passDay_53 (by decide) ?_
    refine j_istore_n 54 cx [(2, .int 0), (1, .int ((-1))), (0, .ref o)] dX1_passDay_54 (by decide) rfl ?_
    have L55 : ∀ d : Nat, ∀ (k : Nat), (k + d = szN σ) → JJ G K 0 0 (wN G o q (offF (holF (tireF σ)) k)) [(2, .int (nI k)), (1, .int ((-1))), (0, .ref o)] 55 [] := by
      intro d
      induction d with
      | zero =>
        intro k hk
        refine j_iload_n 55 cx 0 dX1_passDay_55 rfl ?_
        refine j_aload_n 56 cx 2 dX1_passDay_56 rfl ?_
        refine j_get 57 cx 0 3 (T := TX1) (v := .int ((offF (holF (tireF σ)) k) 0 3)) (fun _ h => List.mem_cons_of_mem _ (List.mem_append_right _ (h))) (List.mem_of_getElem? (i := 6) rfl) (ci := 0) rfl (by decide) rfl rfl rfl dX1_passDay_57 ?_
        refine j_top (nI (szN σ)) ((ht_size σ k).trans hI.sz) ?_
        refine j_icmp_ge_T 60 cx 87 dX1_passDay_60 (by decide) (nI_le (by omega) (by omega)) ?_
        refine j_aload_n 87 cx 2 dX1_passDay_87 rfl ?_
        refine j_dup 88 cx dX1_passDay_88 rfl ?_
        refine j_get 89 cx 0 0 (T := TX1) (v := .int ((offF (holF (tireF σ)) k) 0 0)) (fun _ h => List.mem_cons_of_mem _ (List.mem_append_right _ (h))) (List.mem_of_getElem? (i := 8) rfl) (ci := 0) rfl (by decide) rfl rfl rfl dX1_passDay_89 ?_
        refine j_iconst 92 cx 1 dX1_passDay_92 (by decide) ?_
        refine j_iadd 93 cx dX1_passDay_93 ?_
        refine j_put 94 cx 0 0 (wN G o q (up2 (offF (holF (tireF σ)) k) 0 0 (((offF (holF (tireF σ)) k) 0 0) + 1))) (T := TX1) (ty0 := tyX1) (fun _ h => List.mem_cons_of_mem _ (List.mem_append_right _ (h))) (List.mem_of_getElem? (i := 8) rfl) (ci := 0) rfl (by decide) rfl tyX1_ok nmX1 rfl rfl rfl rfl (Nat.le_of_ble_eq_true rfl) rfl dX1_passDay_94 ?_
        refine j_iload_n 97 cx 1 dX1_passDay_97 rfl ?_
        exact fin () _ _ _ _ dX1_passDay_98 rfl (by rw [hL]; rfl) (congrArg (wN G o q) (by rw [show k = szN σ from by omega, dayF, ht_day])) trivial
      | succ d ih55 =>
        intro k hk
        refine j_iload_n 55 cx 0 dX1_passDay_55 rfl ?_
        refine j_aload_n 56 cx 2 dX1_passDay_56 rfl ?_
        refine j_get 57 cx 0 3 (T := TX1) (v := .int ((offF (holF (tireF σ)) k) 0 3)) (fun _ h => List.mem_cons_of_mem _ (List.mem_append_right _ (h))) (List.mem_of_getElem? (i := 6) rfl) (ci := 0) rfl (by decide) rfl rfl rfl dX1_passDay_57 ?_
        refine j_top (nI (szN σ)) ((ht_size σ k).trans hI.sz) ?_
        refine j_icmp_ge_F 60 cx 87 dX1_passDay_60 (by decide) (nI_ge (by omega) (by omega)) ?_
        refine j_aload_n 63 cx 2 dX1_passDay_63 rfl ?_
        refine j_get 64 cx 0 9 (T := TX1) (v := .ref (q 6)) (fun _ h => List.mem_cons_of_mem _ (List.mem_append_right _ (h))) (List.mem_of_getElem? (i := 7) rfl) (ci := 0) rfl (by decide) rfl rfl rfl dX1_passDay_64 ?_
        refine j_iload_n 67 cx 0 dX1_passDay_67 rfl ?_
        refine j_iconst 68 cx 0 dX1_passDay_68 (by decide) ?_
        refine j_aload_n 69 cx 2 dX1_passDay_69 rfl ?_
        refine j_get 70 cx 0 9 (T := TX1) (v := .ref (q 6)) (fun _ h => List.mem_cons_of_mem _ (List.mem_append_right _ (h))) (List.mem_of_getElem? (i := 7) rfl) (ci := 0) rfl (by decide) rfl rfl rfl dX1_passDay_70 ?_
        refine j_iload_n 73 cx 0 dX1_passDay_73 rfl ?_
        refine j_iald 74 cx 6 k rfl rfl (by omega) (by decide) dX1_passDay_74 ?_
        refine j_iconst 75 cx 1 dX1_passDay_75 (by decide) ?_
        refine j_isub 76 cx dX1_passDay_76 ?_
        refine j_max 77 cx (List.mem_of_getElem? (i := 2) rfl) (List.mem_of_getElem? (i := 3) rfl) (List.mem_of_getElem? (i := 4) rfl) (List.mem_of_getElem? (i := 5) rfl) (by decide) (Nat.le_of_ble_eq_true rfl) (Nat.zero_le _) (Nat.zero_le _) dX1_passDay_77 ?_
        refine j_top (mx0 (((offF (holF (tireF σ)) k) 6 k) - 1)) rfl ?_
        refine j_iast 80 cx 6 k (wN G o q (up2 (offF (holF (tireF σ)) k) 6 k (mx0 (((offF (holF (tireF σ)) k) 6 k) - 1)))) rfl rfl (by omega) (by decide) rfl dX1_passDay_80 ?_
        refine j_iinc 81 cx [(2, .int (nI (k + 1))), (1, .int ((-1))), (0, .ref o)] 0 (nI (k + 1)) dX1_passDay_81 rfl (iinc1 k) (by decide) rfl ?_
        refine j_goto 84 cx 55 dX1_passDay_84 (by decide) ?_
        have h9 := ih55 (k + 1)  (by omega)
        exact h9
    exact L55 (szN σ) 0 (by omega)
set_option maxRecDepth 100000 in
set_option maxHeartbeats 4000000 in
theorem c_X1_passDay_some (l : Launch) (G : pG) (o : Nat) (q : Nat → Nat) (σ : Nu) (hI : Inv σ) (p : Nat) (hL : loud σ = some p) : KI l G yX1_passDay wsX1_passDay ({ frames := 4, cells := 0, slots := 0, locals := 96 } : Room) [.ref o] (wN G o q σ) (S := Unit) (fun _ => True) (fun u => oI (loud σ)) (fun u => wN G o q (dayF σ)) := by
  have h8 := hI.sz8
  obtain ⟨hp, hdn, hof⟩ := loud_in hL
  refine ki_of [(0, .ref o)] (own := RX1) (cc := cX1_passDay) (nL := 3) (by decide +kernel) rfl rfl (Nat.le_of_ble_eq_true rfl) rfl (fun _ => rfl) (fun K cx fin => ?_)
  refine j_aload_n 0 cx 0 dX1_passDay_0 rfl ?_
  refine j_callV_i 1 cx 0 [0, 1, 2, 3, 4, 5, 6] [] (fun _ => wN G o q σ) (c_X1_loudest (kl K) G o q σ hI) gX1_passDay_X1_loudest rfl rfl rfl ⟨rfl, by decide, by decide, rfl⟩ ⟨Nat.le_of_ble_eq_true rfl, Nat.le_of_ble_eq_true rfl⟩ ⟨Nat.zero_le _, Nat.zero_le _⟩ rfl (by decide) (ci := 0) 0 rfl rfl rfl rfl rfl (Nat.le_of_ble_eq_true rfl) dX1_passDay_1 (fun _ => rfl) (fun zu1 zk1 => ?_)
  refine j_top (oI (loud σ)) rfl ?_
  refine j_top (nI p) (by rw [hL]; rfl) ?_
  refine j_istore_n 4 cx [(1, .int (nI p)), (0, .ref o)] dX1_passDay_4 (by decide) rfl ?_
  refine j_iload_n 5 cx 0 dX1_passDay_5 rfl ?_
  refine j_if_lt_F 6 cx 17 dX1_passDay_6 (by decide) (nI_pos (by omega)) ?_
  refine j_aload_n 9 cx 1 dX1_passDay_9 rfl ?_
  refine j_iload_n 10 cx 0 dX1_passDay_10 rfl ?_
  refine j_callV_v 11 cx 1 [0, 1, 2, 3, 4, 5, 6] [.int (nI p)] (fun _ => wN G o q (playF σ p)) (c_X1_play (kl K) G o q σ p hI (by omega)) gX1_passDay_X1_play rfl rfl rfl ⟨rfl, by decide, by decide, rfl⟩ ⟨Nat.le_of_ble_eq_true rfl, Nat.le_of_ble_eq_true rfl⟩ ⟨Nat.zero_le _, Nat.zero_le _⟩ rfl (by decide) (ci := 0) 0 rfl rfl rfl rfl rfl (Nat.le_of_ble_eq_true rfl) dX1_passDay_11 (fun _ => rfl) (fun zu2 zk2 => ?_)
  refine j_goto 14 cx 32 dX1_passDay_14 (by decide) ?_
  refine j_ws (wN G o q (tireF σ)) (congrArg (wN G o q) (tireF_some hL).symm) ?_
  refine j_aload_n 32 cx 1 dX1_passDay_32 rfl ?_
  refine j_callV_i 33 cx 0 [0, 1, 2, 3, 4, 5, 6] [] (fun _ => wN G o q (tireF σ)) (c_X1_isHoliday (kl K) G o q (tireF σ) (inv_tireF hI).dy (inv_tireF hI).dyM) gX1_passDay_X1_isHoliday rfl rfl rfl ⟨rfl, by decide, by decide, rfl⟩ ⟨Nat.le_of_ble_eq_true rfl, Nat.le_of_ble_eq_true rfl⟩ ⟨Nat.zero_le _, Nat.zero_le _⟩ rfl (by decide) (ci := 0) 0 rfl rfl rfl rfl rfl (Nat.le_of_ble_eq_true rfl) dX1_passDay_33 (fun _ => rfl) (fun zu3 zk3 => ?_)
  refine j_top (bI (hol (tireF σ))) rfl ?_
  refine j_ifB_eq 36 cx 53 dX1_passDay_36 (by decide) (fun zc1 => ?_) (fun zc1 => ?_)
  · skip
    refine j_ws (wN G o q (holF (tireF σ))) (congrArg (wN G o q) (holF_f zc1).symm) ?_
    refine j_iconst 53 cx 0 dX1_passDay_53 (by decide) ?_
    refine j_istore_n 54 cx [(2, .int 0), (1, .int (nI p)), (0, .ref o)] dX1_passDay_54 (by decide) rfl ?_
    have L55 : ∀ d : Nat, ∀ (k : Nat), (k + d = szN σ) → JJ G K 0 0 (wN G o q (offF (holF (tireF σ)) k)) [(2, .int (nI k)), (1, .int (nI p)), (0, .ref o)] 55 [] := by
      intro d
      induction d with
      | zero =>
        intro k hk
        refine j_iload_n 55 cx 0 dX1_passDay_55 rfl ?_
        refine j_aload_n 56 cx 2 dX1_passDay_56 rfl ?_
        refine j_get 57 cx 0 3 (T := TX1) (v := .int ((offF (holF (tireF σ)) k) 0 3)) (fun _ h => List.mem_cons_of_mem _ (List.mem_append_right _ (h))) (List.mem_of_getElem? (i := 6) rfl) (ci := 0) rfl (by decide) rfl rfl rfl dX1_passDay_57 ?_
        refine j_top (nI (szN σ)) ((ht_size σ k).trans hI.sz) ?_
        refine j_icmp_ge_T 60 cx 87 dX1_passDay_60 (by decide) (nI_le (by omega) (by omega)) ?_
        refine j_aload_n 87 cx 2 dX1_passDay_87 rfl ?_
        refine j_dup 88 cx dX1_passDay_88 rfl ?_
        refine j_get 89 cx 0 0 (T := TX1) (v := .int ((offF (holF (tireF σ)) k) 0 0)) (fun _ h => List.mem_cons_of_mem _ (List.mem_append_right _ (h))) (List.mem_of_getElem? (i := 8) rfl) (ci := 0) rfl (by decide) rfl rfl rfl dX1_passDay_89 ?_
        refine j_iconst 92 cx 1 dX1_passDay_92 (by decide) ?_
        refine j_iadd 93 cx dX1_passDay_93 ?_
        refine j_put 94 cx 0 0 (wN G o q (up2 (offF (holF (tireF σ)) k) 0 0 (((offF (holF (tireF σ)) k) 0 0) + 1))) (T := TX1) (ty0 := tyX1) (fun _ h => List.mem_cons_of_mem _ (List.mem_append_right _ (h))) (List.mem_of_getElem? (i := 8) rfl) (ci := 0) rfl (by decide) rfl tyX1_ok nmX1 rfl rfl rfl rfl (Nat.le_of_ble_eq_true rfl) rfl dX1_passDay_94 ?_
        refine j_iload_n 97 cx 1 dX1_passDay_97 rfl ?_
        exact fin () _ _ _ _ dX1_passDay_98 rfl (by rw [hL]; rfl) (congrArg (wN G o q) (by rw [show k = szN σ from by omega, dayF, ht_day])) trivial
      | succ d ih55 =>
        intro k hk
        refine j_iload_n 55 cx 0 dX1_passDay_55 rfl ?_
        refine j_aload_n 56 cx 2 dX1_passDay_56 rfl ?_
        refine j_get 57 cx 0 3 (T := TX1) (v := .int ((offF (holF (tireF σ)) k) 0 3)) (fun _ h => List.mem_cons_of_mem _ (List.mem_append_right _ (h))) (List.mem_of_getElem? (i := 6) rfl) (ci := 0) rfl (by decide) rfl rfl rfl dX1_passDay_57 ?_
        refine j_top (nI (szN σ)) ((ht_size σ k).trans hI.sz) ?_
        refine j_icmp_ge_F 60 cx 87 dX1_passDay_60 (by decide) (nI_ge (by omega) (by omega)) ?_
        refine j_aload_n 63 cx 2 dX1_passDay_63 rfl ?_
        refine j_get 64 cx 0 9 (T := TX1) (v := .ref (q 6)) (fun _ h => List.mem_cons_of_mem _ (List.mem_append_right _ (h))) (List.mem_of_getElem? (i := 7) rfl) (ci := 0) rfl (by decide) rfl rfl rfl dX1_passDay_64 ?_
        refine j_iload_n 67 cx 0 dX1_passDay_67 rfl ?_
        refine j_iconst 68 cx 0 dX1_passDay_68 (by decide) ?_
        refine j_aload_n 69 cx 2 dX1_passDay_69 rfl ?_
        refine j_get 70 cx 0 9 (T := TX1) (v := .ref (q 6)) (fun _ h => List.mem_cons_of_mem _ (List.mem_append_right _ (h))) (List.mem_of_getElem? (i := 7) rfl) (ci := 0) rfl (by decide) rfl rfl rfl dX1_passDay_70 ?_
        refine j_iload_n 73 cx 0 dX1_passDay_73 rfl ?_
        refine j_iald 74 cx 6 k rfl rfl (by omega) (by decide) dX1_passDay_74 ?_
        refine j_iconst 75 cx 1 dX1_passDay_75 (by decide) ?_
        refine j_isub 76 cx dX1_passDay_76 ?_
        refine j_max 77 cx (List.mem_of_getElem? (i := 2) rfl) (List.mem_of_getElem? (i := 3) rfl) (List.mem_of_getElem? (i := 4) rfl) (List.mem_of_getElem? (i := 5) rfl) (by decide) (Nat.le_of_ble_eq_true rfl) (Nat.zero_le _) (Nat.zero_le _) dX1_passDay_77 ?_
        refine j_top (mx0 (((offF (holF (tireF σ)) k) 6 k) - 1)) rfl ?_
        refine j_iast 80 cx 6 k (wN G o q (up2 (offF (holF (tireF σ)) k) 6 k (mx0 (((offF (holF (tireF σ)) k) 6 k) - 1)))) rfl rfl (by omega) (by decide) rfl dX1_passDay_80 ?_
        refine j_iinc 81 cx [(2, .int (nI (k + 1))), (1, .int (nI p)), (0, .ref o)] 0 (nI (k + 1)) dX1_passDay_81 rfl (iinc1 k) (by decide) rfl ?_
        refine j_goto 84 cx 55 dX1_passDay_84 (by decide) ?_
        have h9 := ih55 (k + 1)  (by omega)
        exact h9
    exact L55 (szN σ) 0 (by omega)
  · skip
    refine j_aload_n 39 cx 1 dX1_passDay_39 rfl ?_
    refine j_iconst 40 cx 0 dX1_passDay_40 (by decide) ?_
    refine j_aload_n 41 cx 1 dX1_passDay_41 rfl ?_
    refine j_get 42 cx 0 1 (T := TX1) (v := .int ((tireF σ) 0 1)) (fun _ h => List.mem_cons_of_mem _ (List.mem_append_right _ (h))) (List.mem_of_getElem? (i := 1) rfl) (ci := 0) rfl (by decide) rfl rfl rfl dX1_passDay_42 ?_
    refine j_iconst 45 cx 4 dX1_passDay_45 (by decide) ?_
    refine j_isub 46 cx dX1_passDay_46 ?_
    refine j_max 47 cx (List.mem_of_getElem? (i := 2) rfl) (List.mem_of_getElem? (i := 3) rfl) (List.mem_of_getElem? (i := 4) rfl) (List.mem_of_getElem? (i := 5) rfl) (by decide) (Nat.le_of_ble_eq_true rfl) (Nat.zero_le _) (Nat.zero_le _) dX1_passDay_47 ?_
    refine j_top (mx0 (((tireF σ) 0 1) - 4)) rfl ?_
    refine j_put 50 cx 0 1 (wN G o q (up2 (tireF σ) 0 1 (mx0 (((tireF σ) 0 1) - 4)))) (T := TX1) (ty0 := tyX1) (fun _ h => List.mem_cons_of_mem _ (List.mem_append_right _ (h))) (List.mem_of_getElem? (i := 1) rfl) (ci := 0) rfl (by decide) rfl tyX1_ok nmX1 rfl rfl rfl rfl (Nat.le_of_ble_eq_true rfl) rfl dX1_passDay_50 ?_
    refine j_ws (wN G o q (holF (tireF σ))) (congrArg (wN G o q) (holF_t zc1).symm) ?_
    refine j_iconst 53 cx 0 dX1_passDay_53 (by decide) ?_
    refine j_istore_n 54 cx [(2, .int 0), (1, .int (nI p)), (0, .ref o)] dX1_passDay_54 (by decide) rfl ?_
    have L55 : ∀ d : Nat, ∀ (k : Nat), (k + d = szN σ) → JJ G K 0 0 (wN G o q (offF (holF (tireF σ)) k)) [(2, .int (nI k)), (1, .int (nI p)), (0, .ref o)] 55 [] := by
      intro d
      induction d with
      | zero =>
        intro k hk
        refine j_iload_n 55 cx 0 dX1_passDay_55 rfl ?_
        refine j_aload_n 56 cx 2 dX1_passDay_56 rfl ?_
        refine j_get 57 cx 0 3 (T := TX1) (v := .int ((offF (holF (tireF σ)) k) 0 3)) (fun _ h => List.mem_cons_of_mem _ (List.mem_append_right _ (h))) (List.mem_of_getElem? (i := 6) rfl) (ci := 0) rfl (by decide) rfl rfl rfl dX1_passDay_57 ?_
        refine j_top (nI (szN σ)) ((ht_size σ k).trans hI.sz) ?_
        refine j_icmp_ge_T 60 cx 87 dX1_passDay_60 (by decide) (nI_le (by omega) (by omega)) ?_
        refine j_aload_n 87 cx 2 dX1_passDay_87 rfl ?_
        refine j_dup 88 cx dX1_passDay_88 rfl ?_
        refine j_get 89 cx 0 0 (T := TX1) (v := .int ((offF (holF (tireF σ)) k) 0 0)) (fun _ h => List.mem_cons_of_mem _ (List.mem_append_right _ (h))) (List.mem_of_getElem? (i := 8) rfl) (ci := 0) rfl (by decide) rfl rfl rfl dX1_passDay_89 ?_
        refine j_iconst 92 cx 1 dX1_passDay_92 (by decide) ?_
        refine j_iadd 93 cx dX1_passDay_93 ?_
        refine j_put 94 cx 0 0 (wN G o q (up2 (offF (holF (tireF σ)) k) 0 0 (((offF (holF (tireF σ)) k) 0 0) + 1))) (T := TX1) (ty0 := tyX1) (fun _ h => List.mem_cons_of_mem _ (List.mem_append_right _ (h))) (List.mem_of_getElem? (i := 8) rfl) (ci := 0) rfl (by decide) rfl tyX1_ok nmX1 rfl rfl rfl rfl (Nat.le_of_ble_eq_true rfl) rfl dX1_passDay_94 ?_
        refine j_iload_n 97 cx 1 dX1_passDay_97 rfl ?_
        exact fin () _ _ _ _ dX1_passDay_98 rfl (by rw [hL]; rfl) (congrArg (wN G o q) (by rw [show k = szN σ from by omega, dayF, ht_day])) trivial
      | succ d ih55 =>
        intro k hk
        refine j_iload_n 55 cx 0 dX1_passDay_55 rfl ?_
        refine j_aload_n 56 cx 2 dX1_passDay_56 rfl ?_
        refine j_get 57 cx 0 3 (T := TX1) (v := .int ((offF (holF (tireF σ)) k) 0 3)) (fun _ h => List.mem_cons_of_mem _ (List.mem_append_right _ (h))) (List.mem_of_getElem? (i := 6) rfl) (ci := 0) rfl (by decide) rfl rfl rfl dX1_passDay_57 ?_
        refine j_top (nI (szN σ)) ((ht_size σ k).trans hI.sz) ?_
        refine j_icmp_ge_F 60 cx 87 dX1_passDay_60 (by decide) (nI_ge (by omega) (by omega)) ?_
        refine j_aload_n 63 cx 2 dX1_passDay_63 rfl ?_
        refine j_get 64 cx 0 9 (T := TX1) (v := .ref (q 6)) (fun _ h => List.mem_cons_of_mem _ (List.mem_append_right _ (h))) (List.mem_of_getElem? (i := 7) rfl) (ci := 0) rfl (by decide) rfl rfl rfl dX1_passDay_64 ?_
        refine j_iload_n 67 cx 0 dX1_passDay_67 rfl ?_
        refine j_iconst 68 cx 0 dX1_passDay_68 (by decide) ?_
        refine j_aload_n 69 cx 2 dX1_passDay_69 rfl ?_
        refine j_get 70 cx 0 9 (T := TX1) (v := .ref (q 6)) (fun _ h => List.mem_cons_of_mem _ (List.mem_append_right _ (h))) (List.mem_of_getElem? (i := 7) rfl) (ci := 0) rfl (by decide) rfl rfl rfl dX1_passDay_70 ?_
        refine j_iload_n 73 cx 0 dX1_passDay_73 rfl ?_
        refine j_iald 74 cx 6 k rfl rfl (by omega) (by decide) dX1_passDay_74 ?_
        refine j_iconst 75 cx 1 dX1_passDay_75 (by decide) ?_
        refine j_isub 76 cx dX1_passDay_76 ?_
        refine j_max 77 cx (List.mem_of_getElem? (i := 2) rfl) (List.mem_of_getElem? (i := 3) rfl) (List.mem_of_getElem? (i := 4) rfl) (List.mem_of_getElem? (i := 5) rfl) (by decide) (Nat.le_of_ble_eq_true rfl) (Nat.zero_le _) (Nat.zero_le _) dX1_passDay_77 ?_
        refine j_top (mx0 (((offF (holF (tireF σ)) k) 6 k) - 1)) rfl ?_
        refine j_iast 80 cx 6 k (wN G o q (up2 (offF (holF (tireF σ)) k) 6 k (mx0 (((offF (holF (tireF σ)) k) 6 k) - 1)))) rfl rfl (by omega) (by decide) rfl dX1_passDay_80 ?_
        refine j_iinc 81 cx [(2, .int (nI (k + 1))), (1, .int (nI p)), (0, .ref o)] 0 (nI (k + 1)) dX1_passDay_81 rfl (iinc1 k) (by decide) rfl ?_
        refine j_goto 84 cx 55 dX1_passDay_84 (by decide) ?_
        have h9 := ih55 (k + 1)  (by omega)
        exact h9
    exact L55 (szN σ) 0 (by omega)
theorem c_X1_passDay (l : Launch) (G : pG) (o : Nat) (q : Nat → Nat) (σ : Nu) (hI : Inv σ) : KI l G yX1_passDay wsX1_passDay ({ frames := 4, cells := 0, slots := 0, locals := 96 } : Room) [.ref o] (wN G o q σ) (S := Unit) (fun _ => True) (fun _ => oI (loud σ)) (fun _ => wN G o q (dayF σ)) := by
  cases hL : loud σ with
  | none => have h := c_X1_passDay_none l G o q σ hI hL; rw [hL] at h; exact h
  | some p => have h := c_X1_passDay_some l G o q σ hI p hL; rw [hL] at h; exact h
set_option maxRecDepth 100000 in
set_option maxHeartbeats 4000000 in
theorem c_X1_passDays (l : Launch) (G : pG) (o : Nat) (q : Nat → Nat) (σ : Nu) (hI : Inv σ) (n : Nat) (hn : dyN σ + n < 1000000) : KV l G yX1_passDays wsX1_passDays ({ frames := 5, cells := 0, slots := 0, locals := 118 } : Room) [.ref o, .int (nI n)] (wN G o q σ) (S := Unit) (fun _ => True) (fun u => wN G o q (daysF σ n)) := by
  refine kv_of [(0, .ref o), (1, .int (nI n))] (own := RX1) (cc := cX1_passDays) (nL := 3) (by decide +kernel) rfl rfl (Nat.le_of_ble_eq_true rfl) rfl (fun _ => rfl) (fun K cx fin => ?_)
  refine j_iconst 0 cx 0 dX1_passDays_0 (by decide) ?_
  refine j_istore_n 1 cx [(2, .int 0), (0, .ref o), (1, .int (nI n))] dX1_passDays_1 (by decide) rfl ?_
  have L2 : ∀ d : Nat, ∀ (k : Nat), (k + d = n) → JJ G K 0 0 (wN G o q (daysF σ k)) [(2, .int (nI k)), (1, .int (nI n)), (0, .ref o)] 2 [] := by
    intro d
    induction d with
    | zero =>
      intro k hk
      refine j_iload_n 2 cx 0 dX1_passDays_2 rfl ?_
      refine j_iload_n 3 cx 1 dX1_passDays_3 rfl ?_
      refine j_icmp_ge_T 4 cx 18 dX1_passDays_4 (by decide) (nI_le (by omega) (by omega)) ?_
      exact fin () _ _ _ dX1_passDays_18 (by rw [show k = n from by omega]) trivial
    | succ d ih2 =>
      intro k hk
      refine j_iload_n 2 cx 0 dX1_passDays_2 rfl ?_
      refine j_iload_n 3 cx 1 dX1_passDays_3 rfl ?_
      refine j_icmp_ge_F 4 cx 18 dX1_passDays_4 (by decide) (nI_ge (by omega) (by omega)) ?_
      refine j_aload_n 7 cx 2 dX1_passDays_7 rfl ?_
      refine j_callV_i 8 cx 0 [0, 1, 2, 3, 4, 5, 6] [] (fun _ => wN G o q (dayF (daysF σ k))) (c_X1_passDay (kl K) G o q (daysF σ k) (inv_daysF hI k (by omega)).1) gX1_passDays_X1_passDay rfl rfl rfl ⟨rfl, by decide, by decide, rfl⟩ ⟨Nat.le_of_ble_eq_true rfl, Nat.le_of_ble_eq_true rfl⟩ ⟨Nat.zero_le _, Nat.zero_le _⟩ rfl (by decide) (ci := 0) 0 rfl rfl rfl rfl rfl (Nat.le_of_ble_eq_true rfl) dX1_passDays_8 (fun _ => rfl) (fun zu1 zk1 => ?_)
      refine j_top (oI (loud (daysF σ k))) rfl ?_
      refine j_pop 11 cx dX1_passDays_11 rfl ?_
      refine j_iinc 12 cx [(2, .int (nI (k + 1))), (1, .int (nI n)), (0, .ref o)] 0 (nI (k + 1)) dX1_passDays_12 rfl (iinc1 k) (by decide) rfl ?_
      refine j_goto 15 cx 2 dX1_passDays_15 (by decide) ?_
      have h9 := ih2 (k + 1)  (by omega)
      exact h9
  refine j_lv [0, 2, 1] rfl ?_
  exact L2 (n) 0 (by omega)
set_option maxRecDepth 100000 in
set_option maxHeartbeats 4000000 in
theorem c_X1_daysTillDone (l : Launch) (G : pG) (o : Nat) (q : Nat → Nat) (σ : Nu) (hI : Inv σ) (p : Nat) (hp : p < 8) (most : Nat) (hm : most < 1000) (hn : dyN σ + most < 1000000) : KI l G yX1_daysTillDone wsX1_daysTillDone ({ frames := 5, cells := 0, slots := 0, locals := 118 } : Room) [.ref o, .int (nI p), .int (nI most)] (wN G o q σ) (S := Nu) (fun _ => True) (fun u => tR most (till (gDone p) most σ)) (fun u => wN G o q u) := by
  refine ki_of [(0, .ref o), (1, .int (nI p)), (2, .int (nI most))] (own := RX1) (cc := cX1_daysTillDone) (nL := 4) (by decide +kernel) rfl rfl (Nat.le_of_ble_eq_true rfl) rfl (fun _ => rfl) (fun K cx fin => ?_)
  refine j_iconst 0 cx 0 dX1_daysTillDone_0 (by decide) ?_
  refine j_istore_n 1 cx [(3, .int 0), (0, .ref o), (1, .int (nI p)), (2, .int (nI most))] dX1_daysTillDone_1 (by decide) rfl ?_
  have L2 : ∀ d : Nat, ∀ (k : Nat), (k + d = most) → (till (gDone p) most σ = k + till (gDone p) d (daysF σ k)) → JJ G K 0 0 (wN G o q (daysF σ k)) [(3, .int (nI k)), (2, .int (nI most)), (1, .int (nI p)), (0, .ref o)] 2 [] := by
    intro d
    induction d with
    | zero =>
      intro k hk hT
      refine j_iload_n 2 cx 0 dX1_daysTillDone_2 rfl ?_
      refine j_iload_n 3 cx 1 dX1_daysTillDone_3 rfl ?_
      refine j_icmp_ge_T 4 cx 28 dX1_daysTillDone_4 (by decide) (nI_le (by omega) (by omega)) ?_
      refine j_aload_n 28 cx 3 dX1_daysTillDone_28 rfl ?_
      refine j_iload_n 29 cx 2 dX1_daysTillDone_29 rfl ?_
      refine j_callV_i 30 cx 1 [0, 1, 2, 3, 4, 5, 6] [.int (nI p)] (fun _ => wN G o q (daysF σ k)) (c_X1_isDone (kl K) G o q (daysF σ k) p  (by omega)) gX1_daysTillDone_X1_isDone rfl rfl rfl ⟨rfl, by decide, by decide, rfl⟩ ⟨Nat.le_of_ble_eq_true rfl, Nat.le_of_ble_eq_true rfl⟩ ⟨Nat.zero_le _, Nat.zero_le _⟩ rfl (by decide) (ci := 0) 0 rfl rfl rfl rfl rfl (Nat.le_of_ble_eq_true rfl) dX1_daysTillDone_30 (fun _ => rfl) (fun zu1 zk1 => ?_)
      refine j_top (bI (done (daysF σ k) p)) rfl ?_
      refine j_ifB_eq 33 cx 40 dX1_daysTillDone_33 (by decide) (fun zc1 => ?_) (fun zc1 => ?_)
      · skip
        refine j_ldc 40 cx (v := 100000) (List.mem_of_getElem? (i := 1) rfl) dX1_daysTillDone_40 ?_
        exact fin (daysF σ k) _ _ _ _ dX1_daysTillDone_42 rfl (by rw [hT, till_0n (g := gDone p) (τ := daysF σ k) zc1]; exact (tR_n (by omega)).symm) rfl trivial
      · skip
        refine j_iload_n 36 cx 1 dX1_daysTillDone_36 rfl ?_
        refine j_goto 37 cx 42 dX1_daysTillDone_37 (by decide) ?_
        exact fin (daysF σ k) _ _ _ _ dX1_daysTillDone_42 rfl (by rw [hT, till_yes (g := gDone p) (τ := daysF σ k) zc1, show k = most from by omega]; exact (tR_k (Nat.le_refl _)).symm) rfl trivial
    | succ d ih2 =>
      intro k hk hT
      refine j_iload_n 2 cx 0 dX1_daysTillDone_2 rfl ?_
      refine j_iload_n 3 cx 1 dX1_daysTillDone_3 rfl ?_
      refine j_icmp_ge_F 4 cx 28 dX1_daysTillDone_4 (by decide) (nI_ge (by omega) (by omega)) ?_
      refine j_aload_n 7 cx 3 dX1_daysTillDone_7 rfl ?_
      refine j_iload_n 8 cx 2 dX1_daysTillDone_8 rfl ?_
      refine j_callV_i 9 cx 1 [0, 1, 2, 3, 4, 5, 6] [.int (nI p)] (fun _ => wN G o q (daysF σ k)) (c_X1_isDone (kl K) G o q (daysF σ k) p  (by omega)) gX1_daysTillDone_X1_isDone rfl rfl rfl ⟨rfl, by decide, by decide, rfl⟩ ⟨Nat.le_of_ble_eq_true rfl, Nat.le_of_ble_eq_true rfl⟩ ⟨Nat.zero_le _, Nat.zero_le _⟩ rfl (by decide) (ci := 0) 0 rfl rfl rfl rfl rfl (Nat.le_of_ble_eq_true rfl) dX1_daysTillDone_9 (fun _ => rfl) (fun zu2 zk2 => ?_)
      refine j_top (bI (done (daysF σ k) p)) rfl ?_
      refine j_ifB_eq 12 cx 17 dX1_daysTillDone_12 (by decide) (fun zc2 => ?_) (fun zc2 => ?_)
      · skip
        refine j_aload_n 17 cx 3 dX1_daysTillDone_17 rfl ?_
        refine j_callV_i 18 cx 0 [0, 1, 2, 3, 4, 5, 6] [] (fun _ => wN G o q (dayF (daysF σ k))) (c_X1_passDay (kl K) G o q (daysF σ k) (inv_daysF hI k (by omega)).1) gX1_daysTillDone_X1_passDay rfl rfl rfl ⟨rfl, by decide, by decide, rfl⟩ ⟨Nat.le_of_ble_eq_true rfl, Nat.le_of_ble_eq_true rfl⟩ ⟨Nat.zero_le _, Nat.zero_le _⟩ rfl (by decide) (ci := 0) 0 rfl rfl rfl rfl rfl (Nat.le_of_ble_eq_true rfl) dX1_daysTillDone_18 (fun _ => rfl) (fun zu3 zk3 => ?_)
        refine j_top (oI (loud (daysF σ k))) rfl ?_
        refine j_pop 21 cx dX1_daysTillDone_21 rfl ?_
        refine j_iinc 22 cx [(3, .int (nI (k + 1))), (2, .int (nI most)), (1, .int (nI p)), (0, .ref o)] 0 (nI (k + 1)) dX1_daysTillDone_22 rfl (iinc1 k) (by decide) rfl ?_
        refine j_goto 25 cx 2 dX1_daysTillDone_25 (by decide) ?_
        exact ih2 (k + 1) (by omega) (by rw [hT, till_no (g := (gDone p)) (τ := daysF σ k) zc2]; show _ = k + 1 + till (gDone p) d (dayF (daysF σ k)); omega)
      · skip
        refine j_iload_n 15 cx 0 dX1_daysTillDone_15 rfl ?_
        exact fin (daysF σ k) _ _ _ _ dX1_daysTillDone_16 rfl (by rw [hT, till_yes (g := gDone p) (τ := daysF σ k) zc2]; exact (tR_k (by omega)).symm) rfl trivial
  refine j_lv [0, 3, 2, 1] rfl ?_
  exact L2 most 0 (by omega) (by rw [Nat.zero_add]; rfl)
set_option maxRecDepth 100000 in
set_option maxHeartbeats 4000000 in
theorem c_X1_daysTillAllDone (l : Launch) (G : pG) (o : Nat) (q : Nat → Nat) (σ : Nu) (hI : Inv σ) (h8 : szN σ ≤ 8) (most : Nat) (hm : most < 1000) (hn : dyN σ + most < 1000000) : KI l G yX1_daysTillAllDone wsX1_daysTillAllDone ({ frames := 5, cells := 0, slots := 0, locals := 118 } : Room) [.ref o, .int (nI most)] (wN G o q σ) (S := Nu) (fun _ => True) (fun u => tR most (till gAll most σ)) (fun u => wN G o q u) := by
  refine ki_of [(0, .ref o), (1, .int (nI most))] (own := RX1) (cc := cX1_daysTillAllDone) (nL := 3) (by decide +kernel) rfl rfl (Nat.le_of_ble_eq_true rfl) rfl (fun _ => rfl) (fun K cx fin => ?_)
  refine j_iconst 0 cx 0 dX1_daysTillAllDone_0 (by decide) ?_
  refine j_istore_n 1 cx [(2, .int 0), (0, .ref o), (1, .int (nI most))] dX1_daysTillAllDone_1 (by decide) rfl ?_
  have L2 : ∀ d : Nat, ∀ (k : Nat), (k + d = most) → (till gAll most σ = k + till gAll d (daysF σ k)) → JJ G K 0 0 (wN G o q (daysF σ k)) [(2, .int (nI k)), (1, .int (nI most)), (0, .ref o)] 2 [] := by
    intro d
    induction d with
    | zero =>
      intro k hk hT
      refine j_iload_n 2 cx 0 dX1_daysTillAllDone_2 rfl ?_
      refine j_iload_n 3 cx 1 dX1_daysTillAllDone_3 rfl ?_
      refine j_icmp_ge_T 4 cx 27 dX1_daysTillAllDone_4 (by decide) (nI_le (by omega) (by omega)) ?_
      refine j_aload_n 27 cx 2 dX1_daysTillAllDone_27 rfl ?_
      refine j_callV_i 28 cx 0 [0, 1, 2, 3, 4, 5, 6] [] (fun _ => wN G o q (daysF σ k)) (c_X1_undone (kl K) G o q (daysF σ k) (inv_daysF hI k (by omega)).1) gX1_daysTillAllDone_X1_undone rfl rfl rfl ⟨rfl, by decide, by decide, rfl⟩ ⟨Nat.le_of_ble_eq_true rfl, Nat.le_of_ble_eq_true rfl⟩ ⟨Nat.zero_le _, Nat.zero_le _⟩ rfl (by decide) (ci := 0) 0 rfl rfl rfl rfl rfl (Nat.le_of_ble_eq_true rfl) dX1_daysTillAllDone_28 (fun _ => rfl) (fun zu1 zk1 => ?_)
      refine j_top (nI (undN (daysF σ k) (szN (daysF σ k)))) rfl ?_
      refine j_if_ne 31 cx 38 dX1_daysTillAllDone_31 (by decide) (fun zc1 => ?_) (fun zc1 => ?_)
      · skip
        refine j_ldc 38 cx (v := 100000) (List.mem_of_getElem? (i := 1) rfl) dX1_daysTillAllDone_38 ?_
        exact fin (daysF σ k) _ _ _ _ dX1_daysTillAllDone_40 rfl (by rw [hT, till_0n (g := gAll) (τ := daysF σ k) (decide_eq_false (all_f zc1))]; exact (tR_n (by omega)).symm) rfl trivial
      · skip
        refine j_iload_n 34 cx 1 dX1_daysTillAllDone_34 rfl ?_
        refine j_goto 35 cx 40 dX1_daysTillAllDone_35 (by decide) ?_
        exact fin (daysF σ k) _ _ _ _ dX1_daysTillAllDone_40 rfl (by rw [hT, till_yes (g := gAll) (τ := daysF σ k) (decide_eq_true (all_t (by have h1 := undN_le (daysF σ k) (szN (daysF σ k)); rw [daysF_sz] at h1 ⊢; omega) zc1)), show k = most from by omega]; exact (tR_k (Nat.le_refl _)).symm) rfl trivial
    | succ d ih2 =>
      intro k hk hT
      refine j_iload_n 2 cx 0 dX1_daysTillAllDone_2 rfl ?_
      refine j_iload_n 3 cx 1 dX1_daysTillAllDone_3 rfl ?_
      refine j_icmp_ge_F 4 cx 27 dX1_daysTillAllDone_4 (by decide) (nI_ge (by omega) (by omega)) ?_
      refine j_aload_n 7 cx 2 dX1_daysTillAllDone_7 rfl ?_
      refine j_callV_i 8 cx 0 [0, 1, 2, 3, 4, 5, 6] [] (fun _ => wN G o q (daysF σ k)) (c_X1_undone (kl K) G o q (daysF σ k) (inv_daysF hI k (by omega)).1) gX1_daysTillAllDone_X1_undone rfl rfl rfl ⟨rfl, by decide, by decide, rfl⟩ ⟨Nat.le_of_ble_eq_true rfl, Nat.le_of_ble_eq_true rfl⟩ ⟨Nat.zero_le _, Nat.zero_le _⟩ rfl (by decide) (ci := 0) 0 rfl rfl rfl rfl rfl (Nat.le_of_ble_eq_true rfl) dX1_daysTillAllDone_8 (fun _ => rfl) (fun zu2 zk2 => ?_)
      refine j_top (nI (undN (daysF σ k) (szN (daysF σ k)))) rfl ?_
      refine j_if_ne 11 cx 16 dX1_daysTillAllDone_11 (by decide) (fun zc2 => ?_) (fun zc2 => ?_)
      · skip
        refine j_aload_n 16 cx 2 dX1_daysTillAllDone_16 rfl ?_
        refine j_callV_i 17 cx 0 [0, 1, 2, 3, 4, 5, 6] [] (fun _ => wN G o q (dayF (daysF σ k))) (c_X1_passDay (kl K) G o q (daysF σ k) (inv_daysF hI k (by omega)).1) gX1_daysTillAllDone_X1_passDay rfl rfl rfl ⟨rfl, by decide, by decide, rfl⟩ ⟨Nat.le_of_ble_eq_true rfl, Nat.le_of_ble_eq_true rfl⟩ ⟨Nat.zero_le _, Nat.zero_le _⟩ rfl (by decide) (ci := 0) 0 rfl rfl rfl rfl rfl (Nat.le_of_ble_eq_true rfl) dX1_daysTillAllDone_17 (fun _ => rfl) (fun zu3 zk3 => ?_)
        refine j_top (oI (loud (daysF σ k))) rfl ?_
        refine j_pop 20 cx dX1_daysTillAllDone_20 rfl ?_
        refine j_iinc 21 cx [(2, .int (nI (k + 1))), (1, .int (nI most)), (0, .ref o)] 0 (nI (k + 1)) dX1_daysTillAllDone_21 rfl (iinc1 k) (by decide) rfl ?_
        refine j_goto 24 cx 2 dX1_daysTillAllDone_24 (by decide) ?_
        exact ih2 (k + 1) (by omega) (by rw [hT, till_no (g := gAll) (τ := daysF σ k) (decide_eq_false (all_f zc2))]; show _ = k + 1 + till gAll d (dayF (daysF σ k)); omega)
      · skip
        refine j_iload_n 14 cx 0 dX1_daysTillAllDone_14 rfl ?_
        exact fin (daysF σ k) _ _ _ _ dX1_daysTillAllDone_15 rfl (by rw [hT, till_yes (g := gAll) (τ := daysF σ k) (decide_eq_true (all_t (by have h1 := undN_le (daysF σ k) (szN (daysF σ k)); rw [daysF_sz] at h1 ⊢; omega) zc2))]; exact (tR_k (by omega)).symm) rfl trivial
  refine j_lv [0, 2, 1] rfl ?_
  exact L2 most 0 (by omega) (by rw [Nat.zero_add]; rfl)
set_option maxRecDepth 100000 in
set_option maxHeartbeats 4000000 in
theorem c_X1_daysTillPlayed (l : Launch) (G : pG) (o : Nat) (q : Nat → Nat) (σ : Nu) (hI : Inv σ) (p : Nat) (hp : p < 8) (most : Nat) (hm : most < 1000) (hm0 : 0 < most) (hn : dyN σ + most < 1000000) : KI l G yX1_daysTillPlayed wsX1_daysTillPlayed ({ frames := 5, cells := 0, slots := 0, locals := 118 } : Room) [.ref o, .int (nI p), .int (nI most)] (wN G o q σ) (S := Nu) (fun _ => True) (fun u => tR most (till (gPl p) (most - 1) σ + 1)) (fun u => wN G o q u) := by
  refine ki_of [(0, .ref o), (1, .int (nI p)), (2, .int (nI most))] (own := RX1) (cc := cX1_daysTillPlayed) (nL := 4) (by decide +kernel) rfl rfl (Nat.le_of_ble_eq_true rfl) rfl (fun _ => rfl) (fun K cx fin => ?_)
  refine j_iconst 0 cx 1 dX1_daysTillPlayed_0 (by decide) ?_
  refine j_istore_n 1 cx [(3, .int 1), (0, .ref o), (1, .int (nI p)), (2, .int (nI most))] dX1_daysTillPlayed_1 (by decide) rfl ?_
  have L2 : ∀ d : Nat, ∀ (k : Nat), (k + d = most) → (d = 0 ∧ k ≤ till (gPl p) (most - 1) σ ∨ ∃ e, d = e + 1 ∧ till (gPl p) (most - 1) σ = k + till (gPl p) e (daysF σ k)) → JJ G K 0 0 (wN G o q (daysF σ k)) [(3, .int (nI (k + 1))), (2, .int (nI most)), (1, .int (nI p)), (0, .ref o)] 2 [] := by
    intro d
    induction d with
    | zero =>
      intro k hk hT
      have hT : k ≤ till (gPl p) (most - 1) σ := pl_zero (f := fun e => till (gPl p) e (daysF σ k)) hT
      refine j_iload_n 2 cx 0 dX1_daysTillPlayed_2 rfl ?_
      refine j_iload_n 3 cx 1 dX1_daysTillPlayed_3 rfl ?_
      refine j_icmp_gt_T 4 cx 23 dX1_daysTillPlayed_4 (by decide) (nI_lt (by omega) (by omega)) ?_
      refine j_ldc 23 cx (v := 100000) (List.mem_of_getElem? (i := 1) rfl) dX1_daysTillPlayed_23 ?_
      exact fin (daysF σ k) _ _ _ _ dX1_daysTillPlayed_25 rfl (if_neg (by omega)).symm rfl trivial
    | succ d ih2 =>
      intro k hk hT
      have hT : till (gPl p) (most - 1) σ = k + till (gPl p) d (daysF σ k) := pl_succ (f := fun e => till (gPl p) e (daysF σ k)) hT
      refine j_iload_n 2 cx 0 dX1_daysTillPlayed_2 rfl ?_
      refine j_iload_n 3 cx 1 dX1_daysTillPlayed_3 rfl ?_
      refine j_icmp_gt_F 4 cx 23 dX1_daysTillPlayed_4 (by decide) (nI_nlt (by omega) (by omega)) ?_
      refine j_aload_n 7 cx 3 dX1_daysTillPlayed_7 rfl ?_
      refine j_callV_i 8 cx 0 [0, 1, 2, 3, 4, 5, 6] [] (fun _ => wN G o q (dayF (daysF σ k))) (c_X1_passDay (kl K) G o q (daysF σ k) (inv_daysF hI k (by omega)).1) gX1_daysTillPlayed_X1_passDay rfl rfl rfl ⟨rfl, by decide, by decide, rfl⟩ ⟨Nat.le_of_ble_eq_true rfl, Nat.le_of_ble_eq_true rfl⟩ ⟨Nat.zero_le _, Nat.zero_le _⟩ rfl (by decide) (ci := 0) 0 rfl rfl rfl rfl rfl (Nat.le_of_ble_eq_true rfl) dX1_daysTillPlayed_8 (fun _ => rfl) (fun zu1 zk1 => ?_)
      refine j_top (oI (loud (daysF σ k))) rfl ?_
      refine j_iload_n 11 cx 2 dX1_daysTillPlayed_11 rfl ?_
      refine j_icmp_ne 12 cx 17 dX1_daysTillPlayed_12 (by decide) (fun zc1 => ?_) (fun zc1 => ?_)
      · skip
        refine j_iinc 17 cx [(3, .int (nI ((k + 1) + 1))), (2, .int (nI most)), (1, .int (nI p)), (0, .ref o)] 0 (nI ((k + 1) + 1)) dX1_daysTillPlayed_17 rfl (iinc1 (k + 1)) (by decide) rfl ?_
        refine j_goto 20 cx 2 dX1_daysTillPlayed_20 (by decide) ?_
        exact ih2 (k + 1) (by omega) (pl_step hT (decide_eq_false (fun e => zc1 ((oI_lt (inv_daysF hI k (by omega)).1 hp).mpr e))))
      · skip
        refine j_iload_n 15 cx 0 dX1_daysTillPlayed_15 rfl ?_
        exact fin (dayF (daysF σ k)) _ _ _ _ dX1_daysTillPlayed_16 rfl (by rw [hT, till_yes (g := gPl p) (τ := daysF σ k) (decide_eq_true ((oI_lt (inv_daysF hI k (by omega)).1 hp).mp zc1))]; exact (if_pos (by omega)).symm) rfl trivial
  refine j_lv [0, 3, 2, 1] rfl ?_
  exact L2 most 0 (by omega) (Or.inr ⟨most - 1, by omega, by rw [Nat.zero_add]; rfl⟩)
set_option maxRecDepth 100000 in
set_option maxHeartbeats 4000000 in
theorem c_X1_become (l : Launch) (G : pG) (o : Nat) (q : Nat → Nat) (σ : Nu) (o2 : Nat) (q2 : Nat → Nat) (τ : Nu) : KV l G yX1_become wsX1_become ({ frames := 1, cells := 0, slots := 0, locals := 26 } : Room) [.ref o, .ref o2] (wN G o q σ ++ wN G o2 q2 τ) (S := Unit) (fun _ => True) (fun u => wN G o q τ ++ wN G o2 q2 τ) := by
  refine kv_of [(0, .ref o), (1, .ref o2)] (own := RX1) (cc := cX1_become) (nL := 2) (by decide +kernel) rfl rfl (Nat.le_of_ble_eq_true rfl) rfl (fun _ => rfl) (fun K cx fin => ?_)
  refine j_aload_n 0 cx 0 dX1_become_0 rfl ?_
  refine j_aload_n 1 cx 1 dX1_become_1 rfl ?_
  refine j_get 2 cx 7 0 (T := TX1) (v := .int (τ 0 0)) (fun _ h => List.mem_cons_of_mem _ (List.mem_append_right _ (h))) (List.mem_of_getElem? (i := 1) rfl) (ci := 0) rfl (by decide) rfl rfl rfl dX1_become_2 ?_
  refine j_put 5 cx 0 0 (wN G o q (up2 σ 0 0 (τ 0 0)) ++ wN G o2 q2 τ) (T := TX1) (ty0 := tyX1) (fun _ h => List.mem_cons_of_mem _ (List.mem_append_right _ (h))) (List.mem_of_getElem? (i := 1) rfl) (ci := 0) rfl (by decide) rfl tyX1_ok nmX1 rfl rfl rfl rfl (Nat.le_of_ble_eq_true rfl) rfl dX1_become_5 ?_
  refine j_aload_n 8 cx 0 dX1_become_8 rfl ?_
  refine j_aload_n 9 cx 1 dX1_become_9 rfl ?_
  refine j_get 10 cx 7 1 (T := TX1) (v := .int (τ 0 1)) (fun _ h => List.mem_cons_of_mem _ (List.mem_append_right _ (h))) (List.mem_of_getElem? (i := 2) rfl) (ci := 0) rfl (by decide) rfl rfl rfl dX1_become_10 ?_
  refine j_put 13 cx 0 1 (wN G o q (up2 (up2 σ 0 0 (τ 0 0)) 0 1 (τ 0 1)) ++ wN G o2 q2 τ) (T := TX1) (ty0 := tyX1) (fun _ h => List.mem_cons_of_mem _ (List.mem_append_right _ (h))) (List.mem_of_getElem? (i := 2) rfl) (ci := 0) rfl (by decide) rfl tyX1_ok nmX1 rfl rfl rfl rfl (Nat.le_of_ble_eq_true rfl) rfl dX1_become_13 ?_
  refine j_aload_n 16 cx 0 dX1_become_16 rfl ?_
  refine j_aload_n 17 cx 1 dX1_become_17 rfl ?_
  refine j_get 18 cx 7 2 (T := TX1) (v := .int (τ 0 2)) (fun _ h => List.mem_cons_of_mem _ (List.mem_append_right _ (h))) (List.mem_of_getElem? (i := 3) rfl) (ci := 0) rfl (by decide) rfl rfl rfl dX1_become_18 ?_
  refine j_put 21 cx 0 2 (wN G o q (up2 (up2 (up2 σ 0 0 (τ 0 0)) 0 1 (τ 0 1)) 0 2 (τ 0 2)) ++ wN G o2 q2 τ) (T := TX1) (ty0 := tyX1) (fun _ h => List.mem_cons_of_mem _ (List.mem_append_right _ (h))) (List.mem_of_getElem? (i := 3) rfl) (ci := 0) rfl (by decide) rfl tyX1_ok nmX1 rfl rfl rfl rfl (Nat.le_of_ble_eq_true rfl) rfl dX1_become_21 ?_
  refine j_aload_n 24 cx 0 dX1_become_24 rfl ?_
  refine j_aload_n 25 cx 1 dX1_become_25 rfl ?_
  refine j_get 26 cx 7 3 (T := TX1) (v := .int (τ 0 3)) (fun _ h => List.mem_cons_of_mem _ (List.mem_append_right _ (h))) (List.mem_of_getElem? (i := 4) rfl) (ci := 0) rfl (by decide) rfl rfl rfl dX1_become_26 ?_
  refine j_put 29 cx 0 3 (wN G o q (up2 (up2 (up2 (up2 σ 0 0 (τ 0 0)) 0 1 (τ 0 1)) 0 2 (τ 0 2)) 0 3 (τ 0 3)) ++ wN G o2 q2 τ) (T := TX1) (ty0 := tyX1) (fun _ h => List.mem_cons_of_mem _ (List.mem_append_right _ (h))) (List.mem_of_getElem? (i := 4) rfl) (ci := 0) rfl (by decide) rfl tyX1_ok nmX1 rfl rfl rfl rfl (Nat.le_of_ble_eq_true rfl) rfl dX1_become_29 ?_
  refine j_aload_n 32 cx 1 dX1_become_32 rfl ?_
  refine j_get 33 cx 7 4 (T := TX1) (v := .ref (q2 1)) (fun _ h => List.mem_cons_of_mem _ (List.mem_append_right _ (h))) (List.mem_of_getElem? (i := 5) rfl) (ci := 0) rfl (by decide) rfl rfl rfl dX1_become_33 ?_
  refine j_iconst 36 cx 0 dX1_become_36 (by decide) ?_
  refine j_aload_n 37 cx 0 dX1_become_37 rfl ?_
  refine j_get 38 cx 0 4 (T := TX1) (v := .ref (q 1)) (fun _ h => List.mem_cons_of_mem _ (List.mem_append_right _ (h))) (List.mem_of_getElem? (i := 5) rfl) (ci := 0) rfl (by decide) rfl rfl rfl dX1_become_38 ?_
  refine j_iconst 41 cx 0 dX1_become_41 (by decide) ?_
  refine j_bipush 42 cx 7 dX1_become_42 (by decide) ?_
  refine j_copyi 44 cx 8 1 0 0 7 (wN G o q (setR (up2 (up2 (up2 (up2 σ 0 0 (τ 0 0)) 0 1 (τ 0 1)) 0 2 (τ 0 2)) 0 3 (τ 0 3)) 1 (va_cpy (τ 1) (σ 1) 0 0 7)) ++ wN G o2 q2 τ) (List.mem_of_getElem? (i := 6) rfl) (List.mem_of_getElem? (i := 7) rfl) (List.mem_of_getElem? (i := 8) rfl) (List.mem_of_getElem? (i := 9) rfl) rfl rfl rfl rfl rfl (by decide) (by decide) (by decide) (by decide) rfl (by decide) (Nat.le_of_ble_eq_true rfl) dX1_become_44 ?_
  refine j_arrI 1 (τ 1) (wN G o q (setR (up2 (up2 (up2 (up2 σ 0 0 (τ 0 0)) 0 1 (τ 0 1)) 0 2 (τ 0 2)) 0 3 (τ 0 3)) 1 (τ 1)) ++ wN G o2 q2 τ) rfl (fun j hj => sb_cpy0 hj) rfl ?_
  refine j_aload_n 47 cx 1 dX1_become_47 rfl ?_
  refine j_get 48 cx 7 5 (T := TX1) (v := .ref (q2 2)) (fun _ h => List.mem_cons_of_mem _ (List.mem_append_right _ (h))) (List.mem_of_getElem? (i := 10) rfl) (ci := 0) rfl (by decide) rfl rfl rfl dX1_become_48 ?_
  refine j_iconst 51 cx 0 dX1_become_51 (by decide) ?_
  refine j_aload_n 52 cx 0 dX1_become_52 rfl ?_
  refine j_get 53 cx 0 5 (T := TX1) (v := .ref (q 2)) (fun _ h => List.mem_cons_of_mem _ (List.mem_append_right _ (h))) (List.mem_of_getElem? (i := 10) rfl) (ci := 0) rfl (by decide) rfl rfl rfl dX1_become_53 ?_
  refine j_iconst 56 cx 0 dX1_become_56 (by decide) ?_
  refine j_bipush 57 cx 8 dX1_become_57 (by decide) ?_
  refine j_copyi 59 cx 9 2 0 0 8 (wN G o q (setR (setR (up2 (up2 (up2 (up2 σ 0 0 (τ 0 0)) 0 1 (τ 0 1)) 0 2 (τ 0 2)) 0 3 (τ 0 3)) 1 (τ 1)) 2 (va_cpy (τ 2) (σ 2) 0 0 8)) ++ wN G o2 q2 τ) (List.mem_of_getElem? (i := 6) rfl) (List.mem_of_getElem? (i := 7) rfl) (List.mem_of_getElem? (i := 8) rfl) (List.mem_of_getElem? (i := 9) rfl) rfl rfl rfl rfl rfl (by decide) (by decide) (by decide) (by decide) rfl (by decide) (Nat.le_of_ble_eq_true rfl) dX1_become_59 ?_
  refine j_arrI 2 (τ 2) (wN G o q (setR (setR (up2 (up2 (up2 (up2 σ 0 0 (τ 0 0)) 0 1 (τ 0 1)) 0 2 (τ 0 2)) 0 3 (τ 0 3)) 1 (τ 1)) 2 (τ 2)) ++ wN G o2 q2 τ) rfl (fun j hj => sb_cpy0 hj) rfl ?_
  refine j_aload_n 62 cx 1 dX1_become_62 rfl ?_
  refine j_get 63 cx 7 6 (T := TX1) (v := .ref (q2 3)) (fun _ h => List.mem_cons_of_mem _ (List.mem_append_right _ (h))) (List.mem_of_getElem? (i := 11) rfl) (ci := 0) rfl (by decide) rfl rfl rfl dX1_become_63 ?_
  refine j_iconst 66 cx 0 dX1_become_66 (by decide) ?_
  refine j_aload_n 67 cx 0 dX1_become_67 rfl ?_
  refine j_get 68 cx 0 6 (T := TX1) (v := .ref (q 3)) (fun _ h => List.mem_cons_of_mem _ (List.mem_append_right _ (h))) (List.mem_of_getElem? (i := 11) rfl) (ci := 0) rfl (by decide) rfl rfl rfl dX1_become_68 ?_
  refine j_iconst 71 cx 0 dX1_become_71 (by decide) ?_
  refine j_bipush 72 cx 8 dX1_become_72 (by decide) ?_
  refine j_copyi 74 cx 10 3 0 0 8 (wN G o q (setR (setR (setR (up2 (up2 (up2 (up2 σ 0 0 (τ 0 0)) 0 1 (τ 0 1)) 0 2 (τ 0 2)) 0 3 (τ 0 3)) 1 (τ 1)) 2 (τ 2)) 3 (va_cpy (τ 3) (σ 3) 0 0 8)) ++ wN G o2 q2 τ) (List.mem_of_getElem? (i := 6) rfl) (List.mem_of_getElem? (i := 7) rfl) (List.mem_of_getElem? (i := 8) rfl) (List.mem_of_getElem? (i := 9) rfl) rfl rfl rfl rfl rfl (by decide) (by decide) (by decide) (by decide) rfl (by decide) (Nat.le_of_ble_eq_true rfl) dX1_become_74 ?_
  refine j_arrI 3 (τ 3) (wN G o q (setR (setR (setR (up2 (up2 (up2 (up2 σ 0 0 (τ 0 0)) 0 1 (τ 0 1)) 0 2 (τ 0 2)) 0 3 (τ 0 3)) 1 (τ 1)) 2 (τ 2)) 3 (τ 3)) ++ wN G o2 q2 τ) rfl (fun j hj => sb_cpy0 hj) rfl ?_
  refine j_aload_n 77 cx 1 dX1_become_77 rfl ?_
  refine j_get 78 cx 7 7 (T := TX1) (v := .ref (q2 4)) (fun _ h => List.mem_cons_of_mem _ (List.mem_append_right _ (h))) (List.mem_of_getElem? (i := 12) rfl) (ci := 0) rfl (by decide) rfl rfl rfl dX1_become_78 ?_
  refine j_iconst 81 cx 0 dX1_become_81 (by decide) ?_
  refine j_aload_n 82 cx 0 dX1_become_82 rfl ?_
  refine j_get 83 cx 0 7 (T := TX1) (v := .ref (q 4)) (fun _ h => List.mem_cons_of_mem _ (List.mem_append_right _ (h))) (List.mem_of_getElem? (i := 12) rfl) (ci := 0) rfl (by decide) rfl rfl rfl dX1_become_83 ?_
  refine j_iconst 86 cx 0 dX1_become_86 (by decide) ?_
  refine j_bipush 87 cx 8 dX1_become_87 (by decide) ?_
  refine j_copyi 89 cx 11 4 0 0 8 (wN G o q (setR (setR (setR (setR (up2 (up2 (up2 (up2 σ 0 0 (τ 0 0)) 0 1 (τ 0 1)) 0 2 (τ 0 2)) 0 3 (τ 0 3)) 1 (τ 1)) 2 (τ 2)) 3 (τ 3)) 4 (va_cpy (τ 4) (σ 4) 0 0 8)) ++ wN G o2 q2 τ) (List.mem_of_getElem? (i := 6) rfl) (List.mem_of_getElem? (i := 7) rfl) (List.mem_of_getElem? (i := 8) rfl) (List.mem_of_getElem? (i := 9) rfl) rfl rfl rfl rfl rfl (by decide) (by decide) (by decide) (by decide) rfl (by decide) (Nat.le_of_ble_eq_true rfl) dX1_become_89 ?_
  refine j_arrI 4 (τ 4) (wN G o q (setR (setR (setR (setR (up2 (up2 (up2 (up2 σ 0 0 (τ 0 0)) 0 1 (τ 0 1)) 0 2 (τ 0 2)) 0 3 (τ 0 3)) 1 (τ 1)) 2 (τ 2)) 3 (τ 3)) 4 (τ 4)) ++ wN G o2 q2 τ) rfl (fun j hj => sb_cpy0 hj) rfl ?_
  refine j_aload_n 92 cx 1 dX1_become_92 rfl ?_
  refine j_get 93 cx 7 8 (T := TX1) (v := .ref (q2 5)) (fun _ h => List.mem_cons_of_mem _ (List.mem_append_right _ (h))) (List.mem_of_getElem? (i := 13) rfl) (ci := 0) rfl (by decide) rfl rfl rfl dX1_become_93 ?_
  refine j_iconst 96 cx 0 dX1_become_96 (by decide) ?_
  refine j_aload_n 97 cx 0 dX1_become_97 rfl ?_
  refine j_get 98 cx 0 8 (T := TX1) (v := .ref (q 5)) (fun _ h => List.mem_cons_of_mem _ (List.mem_append_right _ (h))) (List.mem_of_getElem? (i := 13) rfl) (ci := 0) rfl (by decide) rfl rfl rfl dX1_become_98 ?_
  refine j_iconst 101 cx 0 dX1_become_101 (by decide) ?_
  refine j_bipush 102 cx 8 dX1_become_102 (by decide) ?_
  refine j_copyi 104 cx 12 5 0 0 8 (wN G o q (setR (setR (setR (setR (setR (up2 (up2 (up2 (up2 σ 0 0 (τ 0 0)) 0 1 (τ 0 1)) 0 2 (τ 0 2)) 0 3 (τ 0 3)) 1 (τ 1)) 2 (τ 2)) 3 (τ 3)) 4 (τ 4)) 5 (va_cpy (τ 5) (σ 5) 0 0 8)) ++ wN G o2 q2 τ) (List.mem_of_getElem? (i := 6) rfl) (List.mem_of_getElem? (i := 7) rfl) (List.mem_of_getElem? (i := 8) rfl) (List.mem_of_getElem? (i := 9) rfl) rfl rfl rfl rfl rfl (by decide) (by decide) (by decide) (by decide) rfl (by decide) (Nat.le_of_ble_eq_true rfl) dX1_become_104 ?_
  refine j_arrI 5 (τ 5) (wN G o q (setR (setR (setR (setR (setR (up2 (up2 (up2 (up2 σ 0 0 (τ 0 0)) 0 1 (τ 0 1)) 0 2 (τ 0 2)) 0 3 (τ 0 3)) 1 (τ 1)) 2 (τ 2)) 3 (τ 3)) 4 (τ 4)) 5 (τ 5)) ++ wN G o2 q2 τ) rfl (fun j hj => sb_cpy0 hj) rfl ?_
  refine j_aload_n 107 cx 1 dX1_become_107 rfl ?_
  refine j_get 108 cx 7 9 (T := TX1) (v := .ref (q2 6)) (fun _ h => List.mem_cons_of_mem _ (List.mem_append_right _ (h))) (List.mem_of_getElem? (i := 14) rfl) (ci := 0) rfl (by decide) rfl rfl rfl dX1_become_108 ?_
  refine j_iconst 111 cx 0 dX1_become_111 (by decide) ?_
  refine j_aload_n 112 cx 0 dX1_become_112 rfl ?_
  refine j_get 113 cx 0 9 (T := TX1) (v := .ref (q 6)) (fun _ h => List.mem_cons_of_mem _ (List.mem_append_right _ (h))) (List.mem_of_getElem? (i := 14) rfl) (ci := 0) rfl (by decide) rfl rfl rfl dX1_become_113 ?_
  refine j_iconst 116 cx 0 dX1_become_116 (by decide) ?_
  refine j_bipush 117 cx 8 dX1_become_117 (by decide) ?_
  refine j_copyi 119 cx 13 6 0 0 8 (wN G o q (setR (setR (setR (setR (setR (setR (up2 (up2 (up2 (up2 σ 0 0 (τ 0 0)) 0 1 (τ 0 1)) 0 2 (τ 0 2)) 0 3 (τ 0 3)) 1 (τ 1)) 2 (τ 2)) 3 (τ 3)) 4 (τ 4)) 5 (τ 5)) 6 (va_cpy (τ 6) (σ 6) 0 0 8)) ++ wN G o2 q2 τ) (List.mem_of_getElem? (i := 6) rfl) (List.mem_of_getElem? (i := 7) rfl) (List.mem_of_getElem? (i := 8) rfl) (List.mem_of_getElem? (i := 9) rfl) rfl rfl rfl rfl rfl (by decide) (by decide) (by decide) (by decide) rfl (by decide) (Nat.le_of_ble_eq_true rfl) dX1_become_119 ?_
  refine j_arrI 6 (τ 6) (wN G o q (setR (setR (setR (setR (setR (setR (up2 (up2 (up2 (up2 σ 0 0 (τ 0 0)) 0 1 (τ 0 1)) 0 2 (τ 0 2)) 0 3 (τ 0 3)) 1 (τ 1)) 2 (τ 2)) 3 (τ 3)) 4 (τ 4)) 5 (τ 5)) 6 (τ 6)) ++ wN G o2 q2 τ) rfl (fun j hj => sb_cpy0 hj) rfl ?_
  exact fin () _ _ _ dX1_become_122 rfl trivial
set_option maxRecDepth 100000 in
set_option maxHeartbeats 4000000 in
theorem c_X1_add (l : Launch) (G : pG) (o : Nat) (q : Nat → Nat) (σ : Nu) (kk ln du pf : Int32) (hz : σ 0 3 = nI (szN σ)) (hz8 : szN σ < 8) : KI l G yX1_add wsX1_add ({ frames := 1, cells := 0, slots := 0, locals := 20 } : Room) [.ref o, .int kk, .int ln, .int du, .int pf] (wN G o q σ) (S := Unit) (fun _ => True) (fun u => nI (szN σ)) (fun u => wN G o q (addF σ kk ln du pf)) := by
  have hf := And.intro hz (Nat.le_of_lt hz8)
  refine ki_of [(0, .ref o), (1, .int kk), (2, .int ln), (3, .int du), (4, .int pf)] (own := RX1) (cc := cX1_add) (nL := 6) (by decide +kernel) rfl rfl (Nat.le_of_ble_eq_true rfl) rfl (fun _ => rfl) (fun K cx fin => ?_)
  refine j_aload_n 0 cx 0 dX1_add_0 rfl ?_
  refine j_callV_i 1 cx 0 [0, 1, 2, 3, 4, 5, 6] [] (fun _ => wN G o q σ) (c_X1_isFull (kl K) G o q σ hf.1 hf.2) gX1_add_X1_isFull rfl rfl rfl ⟨rfl, by decide, by decide, rfl⟩ ⟨Nat.le_of_ble_eq_true rfl, Nat.le_of_ble_eq_true rfl⟩ ⟨Nat.zero_le _, Nat.zero_le _⟩ rfl (by decide) (ci := 0) 0 rfl rfl rfl rfl rfl (Nat.le_of_ble_eq_true rfl) dX1_add_1 (fun _ => rfl) (fun zu1 zk1 => ?_)
  refine j_top (bI (decide (8 ≤ szN σ))) rfl ?_
  refine j_if_eq_T 4 cx 9 dX1_add_4 (by decide) (by rw [show decide (8 ≤ szN σ) = false from decide_eq_false (by omega)]; rfl) ?_
  refine j_aload_n 9 cx 0 dX1_add_9 rfl ?_
  refine j_get 10 cx 0 3 (T := TX1) (v := .int (σ 0 3)) (fun _ h => List.mem_cons_of_mem _ (List.mem_append_right _ (h))) (List.mem_of_getElem? (i := 1) rfl) (ci := 0) rfl (by decide) rfl rfl rfl dX1_add_10 ?_
  refine j_top (nI (szN σ)) hz ?_
  refine j_istore 13 cx [(5, .int (nI (szN σ))), (0, .ref o), (1, .int kk), (2, .int ln), (3, .int du), (4, .int pf)] dX1_add_13 (by decide) rfl ?_
  refine j_aload_n 15 cx 1 dX1_add_15 rfl ?_
  refine j_get 16 cx 0 5 (T := TX1) (v := .ref (q 2)) (fun _ h => List.mem_cons_of_mem _ (List.mem_append_right _ (h))) (List.mem_of_getElem? (i := 2) rfl) (ci := 0) rfl (by decide) rfl rfl rfl dX1_add_16 ?_
  refine j_iload 19 cx 0 dX1_add_19 rfl ?_
  refine j_iload_n 21 cx 2 dX1_add_21 rfl ?_
  refine j_iast 22 cx 2 (szN σ) (wN G o q (up2 σ 2 (szN σ) kk)) rfl rfl (by omega) (by decide) rfl dX1_add_22 ?_
  refine j_aload_n 23 cx 1 dX1_add_23 rfl ?_
  refine j_get 24 cx 0 6 (T := TX1) (v := .ref (q 3)) (fun _ h => List.mem_cons_of_mem _ (List.mem_append_right _ (h))) (List.mem_of_getElem? (i := 3) rfl) (ci := 0) rfl (by decide) rfl rfl rfl dX1_add_24 ?_
  refine j_iload 27 cx 0 dX1_add_27 rfl ?_
  refine j_iload_n 29 cx 3 dX1_add_29 rfl ?_
  refine j_iast 30 cx 3 (szN σ) (wN G o q (up2 (up2 σ 2 (szN σ) kk) 3 (szN σ) ln)) rfl rfl (by omega) (by decide) rfl dX1_add_30 ?_
  refine j_aload_n 31 cx 1 dX1_add_31 rfl ?_
  refine j_get 32 cx 0 7 (T := TX1) (v := .ref (q 4)) (fun _ h => List.mem_cons_of_mem _ (List.mem_append_right _ (h))) (List.mem_of_getElem? (i := 4) rfl) (ci := 0) rfl (by decide) rfl rfl rfl dX1_add_32 ?_
  refine j_iload 35 cx 0 dX1_add_35 rfl ?_
  refine j_iconst 37 cx 0 dX1_add_37 (by decide) ?_
  refine j_iast 38 cx 4 (szN σ) (wN G o q (up2 (up2 (up2 σ 2 (szN σ) kk) 3 (szN σ) ln) 4 (szN σ) 0)) rfl rfl (by omega) (by decide) rfl dX1_add_38 ?_
  refine j_aload_n 39 cx 1 dX1_add_39 rfl ?_
  refine j_get 40 cx 0 8 (T := TX1) (v := .ref (q 5)) (fun _ h => List.mem_cons_of_mem _ (List.mem_append_right _ (h))) (List.mem_of_getElem? (i := 5) rfl) (ci := 0) rfl (by decide) rfl rfl rfl dX1_add_40 ?_
  refine j_iload 43 cx 0 dX1_add_43 rfl ?_
  refine j_iload_n 45 cx 4 dX1_add_45 rfl ?_
  refine j_iast 46 cx 5 (szN σ) (wN G o q (up2 (up2 (up2 (up2 σ 2 (szN σ) kk) 3 (szN σ) ln) 4 (szN σ) 0) 5 (szN σ) du)) rfl rfl (by omega) (by decide) rfl dX1_add_46 ?_
  refine j_aload_n 47 cx 1 dX1_add_47 rfl ?_
  refine j_get 48 cx 0 9 (T := TX1) (v := .ref (q 6)) (fun _ h => List.mem_cons_of_mem _ (List.mem_append_right _ (h))) (List.mem_of_getElem? (i := 6) rfl) (ci := 0) rfl (by decide) rfl rfl rfl dX1_add_48 ?_
  refine j_iload 51 cx 0 dX1_add_51 rfl ?_
  refine j_iload 53 cx 5 dX1_add_53 rfl ?_
  refine j_iast 55 cx 6 (szN σ) (wN G o q (up2 (up2 (up2 (up2 (up2 σ 2 (szN σ) kk) 3 (szN σ) ln) 4 (szN σ) 0) 5 (szN σ) du) 6 (szN σ) pf)) rfl rfl (by omega) (by decide) rfl dX1_add_55 ?_
  refine j_aload_n 56 cx 1 dX1_add_56 rfl ?_
  refine j_dup 57 cx dX1_add_57 rfl ?_
  refine j_get 58 cx 0 3 (T := TX1) (v := .int (σ 0 3)) (fun _ h => List.mem_cons_of_mem _ (List.mem_append_right _ (h))) (List.mem_of_getElem? (i := 1) rfl) (ci := 0) rfl (by decide) rfl rfl rfl dX1_add_58 ?_
  refine j_top (nI (szN σ)) hz ?_
  refine j_iconst 61 cx 1 dX1_add_61 (by decide) ?_
  refine j_iadd 62 cx dX1_add_62 ?_
  refine j_put 63 cx 0 3 (wN G o q (up2 (up2 (up2 (up2 (up2 (up2 σ 2 (szN σ) kk) 3 (szN σ) ln) 4 (szN σ) 0) 5 (szN σ) du) 6 (szN σ) pf) 0 3 ((nI (szN σ)) + 1))) (T := TX1) (ty0 := tyX1) (fun _ h => List.mem_cons_of_mem _ (List.mem_append_right _ (h))) (List.mem_of_getElem? (i := 1) rfl) (ci := 0) rfl (by decide) rfl tyX1_ok nmX1 rfl rfl rfl rfl (Nat.le_of_ble_eq_true rfl) rfl dX1_add_63 ?_
  refine j_iload 66 cx 0 dX1_add_66 rfl ?_
  exact fin () _ _ _ _ dX1_add_68 rfl rfl rfl trivial
