theorem m1_lt {n : Nat} (h : n < 1000000) : nI (n + 0) - 1 < nI n := by
  rw [Nat.add_zero, fa_lt, fb_subI (by rw [nI_toInt (by omega), ti_1]; omega) (by rw [nI_toInt (by omega), ti_1]; omega), nI_toInt (by omega), ti_1]; omega
set_option maxRecDepth 100000 in
set_option maxHeartbeats 4000000 in
theorem c_X5_laterM (l : Launch) (G : pG) (o : Nat) (ax : Nat → Nat) (qh qt qk : Nat → Nat) (S : St) (τ : Nu) (hI : Inv (sN S)) (hD : dyN (sN S) ≤ 9999) (m : Nat) (hm : m = 200) (n : Int32) : KI l G yX5_later wsX5_later ({ frames := 6, cells := 0, slots := 0, locals := 140 } : Room) [.ref o, .int n] (wXO o ax (sP S) ++ ([((ax 7), .inl (gI G, 7, .inl (sF S)))] ++ (wN G (ax 1) qh (sN S) ++ wN G (ax 2) qt τ))) (S := Nu) (fun _ => True) (fun u => (sp_laterM m n S).1) (fun u => wXO o ax (sP S) ++ ([((ax 7), .inl (gI G, 7, .inl (sF (sp_laterM m n S).2)))] ++ (wN G (ax 1) qh (sN (sp_laterM m n S).2) ++ wN G (ax 2) qt u))) := by
  refine ki_of [(0, .ref o), (1, .int n)] (own := RX5) (cc := cX5_later) (nL := 7) (by decide +kernel) rfl rfl (Nat.le_of_ble_eq_true rfl) rfl (fun _ => rfl) (fun K cx fin => ?_)
  refine j_iload_n 0 cx 1 dX5_later_0 rfl ?_
  refine j_iconst 1 cx 1 dX5_later_1 (by decide) ?_
  refine j_bipush 2 cx 60 dX5_later_2 (by decide) ?_
  refine j_callS_i 4 cx 3 [] [.int n, .int 1, .int 60] (fun _ => wXO o ax (sP S) ++ ([((ax 7), .inl (gI G, 7, .inl (sF S)))] ++ (wN G (ax 1) qh (sN S) ++ wN G (ax 2) qt τ))) (c_X5_inside (kl K) G n 1 60) gX5_later_X5_inside rfl rfl rfl ⟨by decide, by decide, rfl⟩ ⟨Nat.le_of_ble_eq_true rfl, Nat.le_of_ble_eq_true rfl⟩ ⟨Nat.zero_le _, Nat.zero_le _⟩ rfl (by decide) rfl rfl (Nat.le_of_ble_eq_true rfl) dX5_later_4 (fun _ => rfl) (fun zu1 zk1 => ?_)
  refine j_top (bI (inI n 1 60)) rfl ?_
  refine j_ifB_ne 7 cx 17 dX5_later_7 (by decide) (fun zc1 => ?_) (fun zc1 => ?_)
  · skip
    have hn99 : 0 ≤ n.toInt ∧ n.toInt ≤ 99 := by obtain ⟨kn, h1, h2, h3⟩ := in_c (L := 1) (M := 60) (a := 1) (m := 60) rfl rfl zc1; rw [h3]; exact nI_99 (by omega)
    have h8 := hI.sz8
    refine j_aload_n 17 cx 0 dX5_later_17 rfl ?_
    refine j_callV_q 18 cx 0 [0, 2, 3, 4, 5, 6, 7, 8, 9, 10, 11, 12, 13, 14, 15] [] (fun _ => wXO o ax (sP S) ++ ([((ax 7), .inl (gI G, 7, .inl (sF S)))] ++ (wN G (ax 1) qh (sN S) ++ wN G (ax 2) qt (sN S)))) (c_X5_rehearsal (kl K) G o ax (sP S) qh qt (sN S) τ) gX5_later_X5_rehearsal rfl rfl rfl ⟨rfl, by decide, by decide, rfl⟩ ⟨Nat.le_of_ble_eq_true rfl, Nat.le_of_ble_eq_true rfl⟩ ⟨Nat.zero_le _, Nat.zero_le _⟩ rfl (by decide) (ci := 4) 0 rfl rfl rfl rfl rfl (Nat.le_of_ble_eq_true rfl) dX5_later_18 (fun _ => rfl) (fun zu2 zk2 => ?_)
    refine j_st (st' := [.ref ((ax 2))]) rfl ?_
    refine j_astore_n 21 cx [(2, .ref ((ax 2))), (0, .ref o), (1, .int n)] dX5_later_21 (by decide) rfl ?_
    refine j_aload_n 22 cx 0 dX5_later_22 rfl ?_
    refine j_sipush 23 cx 200 dX5_later_23 (by decide) ?_
    refine j_top (nI m) (by rw [hm]; rfl) ?_
    refine j_callV_v 26 cx 1 [9, 10, 11, 12, 13, 14, 15] [.int (nI m)] (fun _ => wXO o ax (sP S) ++ ([((ax 7), .inl (gI G, 7, .inl (sF S)))] ++ (wN G (ax 1) qh (sN S) ++ wN G (ax 2) qt (daysF (sN S) m)))) (c_X1_passDays (kl K) G (ax 2) qt (sN S) hI m (by have := hD; omega)) gX5_later_X1_passDays rfl rfl rfl ⟨rfl, by decide, by decide, rfl⟩ ⟨Nat.le_of_ble_eq_true rfl, Nat.le_of_ble_eq_true rfl⟩ ⟨Nat.zero_le _, Nat.zero_le _⟩ rfl (by decide) (ci := 0) 0 rfl rfl rfl rfl rfl (Nat.le_of_ble_eq_true rfl) dX5_later_26 (fun _ => rfl) (fun zu3 zk3 => ?_)
    refine j_aload_n 29 cx 0 dX5_later_29 rfl ?_
    refine j_get 30 cx 9 2 (T := TX1) (v := .int ((daysF (sN S) m) 0 2)) (fun _ h => List.mem_cons_of_mem _ (List.mem_append_left _ (List.mem_append_right _ (h)))) (List.mem_of_getElem? (i := 2) rfl) (ci := 0) rfl (by decide) rfl rfl rfl dX5_later_30 ?_
    refine j_istore_n 33 cx [(3, .int ((daysF (sN S) m) 0 2)), (2, .ref ((ax 2))), (0, .ref o), (1, .int n)] dX5_later_33 (by decide) rfl ?_
    refine j_iconst 34 cx (-1) dX5_later_34 (by decide) ?_
    refine j_istore 35 cx [(4, .int ((-1))), (3, .int ((daysF (sN S) m) 0 2)), (2, .ref ((ax 2))), (0, .ref o), (1, .int n)] dX5_later_35 (by decide) rfl ?_
    refine j_iconst 37 cx 0 dX5_later_37 (by decide) ?_
    refine j_istore 38 cx [(5, .int 0), (4, .int ((-1))), (3, .int ((daysF (sN S) m) 0 2)), (2, .ref ((ax 2))), (0, .ref o), (1, .int n)] dX5_later_38 (by decide) rfl ?_
    have L40 : ∀ d : Nat, ∀ (j : Nat) (zt : Nu), (j + d = szN (sN S)) → JJ G K 0 0 (wXO o ax (sP S) ++ ([((ax 7), .inl (gI G, 7, .inl (sF S)))] ++ (wN G (ax 1) qh (sN S) ++ wN G (ax 2) qt zt))) [(5, .int (nI j)), (4, .int ((bstI (lateF m (sN S) n) (daysF (sN S) m 0 2) j).2)), (3, .int ((bstI (lateF m (sN S) n) (daysF (sN S) m 0 2) j).1)), (1, .int n), (0, .ref o)] 40 [] := by
      intro d
      induction d with
      | zero =>
        intro j zt hj
        refine j_iload 40 cx 0 dX5_later_40 rfl ?_
        refine j_aload_n 42 cx 4 dX5_later_42 rfl ?_
        refine j_get 43 cx 0 0 (T := TX5) (v := .ref ((ax 1))) (fun _ h => List.mem_cons_of_mem _ (List.mem_append_right _ (h))) (List.mem_of_getElem? (i := 3) rfl) (ci := 4) rfl (by decide) rfl rfl rfl dX5_later_43 ?_
        refine j_get 46 cx 2 3 (T := TX1) (v := .int ((sN S) 0 3)) (fun _ h => List.mem_cons_of_mem _ (List.mem_append_left _ (List.mem_append_right _ (h)))) (List.mem_of_getElem? (i := 4) rfl) (ci := 0) rfl (by decide) rfl rfl rfl dX5_later_46 ?_
        refine j_top (nI (szN (sN S))) hI.sz ?_
        refine j_icmp_ge_T 49 cx 100 dX5_later_49 (by decide) (nI_le (by omega) (by omega)) ?_
        refine j_iload 100 cx 1 dX5_later_100 rfl ?_
        refine j_if_ge 102 cx 114 dX5_later_102 (by decide) (fun zc2 => ?_) (fun zc2 => ?_)
        · skip
          refine j_iload 114 cx 1 dX5_later_114 rfl ?_
          have ze : (sp_laterM m n S) = ((bstI (lateF m (sN S) n) (daysF (sN S) m 0 2) j).2, S) := by unfold sp_laterM; rw [if_pos zc1, show szN (sN S) = j from by omega]; exact orB_T zc2
          exact fin zt _ _ _ _ dX5_later_116 rfl (by rw [ze] <;> rfl) (by rw [ze] <;> rfl) trivial
        · skip
          refine j_aload_n 105 cx 4 dX5_later_105 rfl ?_
          refine j_ldc 106 cx (v := -1000000004) (List.mem_of_getElem? (i := 6) rfl) dX5_later_106 ?_
          refine j_callV_i 108 cx 1 [0, 1] [.int (fcode 3)] (fun _ => wXO o ax (sP S) ++ ([((ax 7), .inl (gI G, 7, .inl (upd (sF S) 3 ((sF S) 3 + 1))))] ++ (wN G (ax 1) qh (sN S) ++ wN G (ax 2) qt zt))) (c_X5_finding (kl K) G o ax (sP S) (sF S) 3 (by decide)) gX5_later_X5_finding rfl rfl rfl ⟨rfl, by decide, by decide, rfl⟩ ⟨Nat.le_of_ble_eq_true rfl, Nat.le_of_ble_eq_true rfl⟩ ⟨Nat.zero_le _, Nat.zero_le _⟩ rfl (by decide) (ci := 4) 0 rfl rfl rfl rfl rfl (Nat.le_of_ble_eq_true rfl) dX5_later_108 (fun _ => rfl) (fun zu4 zk4 => ?_)
          refine j_top (fcode 3) rfl ?_
          refine j_goto 111 cx 116 dX5_later_111 (by decide) ?_
          have ze : (sp_laterM m n S) = bad S 3 := by unfold sp_laterM; rw [if_pos zc1, show szN (sN S) = j from by omega]; exact orB_F zc2
          exact fin zt _ _ _ _ dX5_later_116 rfl (by rw [ze] <;> rfl) (by rw [ze] <;> rfl) trivial
      | succ d ih40 =>
        intro j zt hj
        refine j_iload 40 cx 0 dX5_later_40 rfl ?_
        refine j_aload_n 42 cx 4 dX5_later_42 rfl ?_
        refine j_get 43 cx 0 0 (T := TX5) (v := .ref ((ax 1))) (fun _ h => List.mem_cons_of_mem _ (List.mem_append_right _ (h))) (List.mem_of_getElem? (i := 3) rfl) (ci := 4) rfl (by decide) rfl rfl rfl dX5_later_43 ?_
        refine j_get 46 cx 2 3 (T := TX1) (v := .int ((sN S) 0 3)) (fun _ h => List.mem_cons_of_mem _ (List.mem_append_left _ (List.mem_append_right _ (h)))) (List.mem_of_getElem? (i := 4) rfl) (ci := 0) rfl (by decide) rfl rfl rfl dX5_later_46 ?_
        refine j_top (nI (szN (sN S))) hI.sz ?_
        refine j_icmp_ge_F 49 cx 100 dX5_later_49 (by decide) (nI_ge (by omega) (by omega)) ?_
        refine j_aload_n 52 cx 4 dX5_later_52 rfl ?_
        refine j_callV_q 53 cx 0 [0, 2, 3, 4, 5, 6, 7, 8, 9, 10, 11, 12, 13, 14, 15] [] (fun _ => wXO o ax (sP S) ++ ([((ax 7), .inl (gI G, 7, .inl (sF S)))] ++ (wN G (ax 1) qh (sN S) ++ wN G (ax 2) qt (sN S)))) (c_X5_rehearsal (kl K) G o ax (sP S) qh qt (sN S) zt) gX5_later_X5_rehearsal rfl rfl rfl ⟨rfl, by decide, by decide, rfl⟩ ⟨Nat.le_of_ble_eq_true rfl, Nat.le_of_ble_eq_true rfl⟩ ⟨Nat.zero_le _, Nat.zero_le _⟩ rfl (by decide) (ci := 4) 0 rfl rfl rfl rfl rfl (Nat.le_of_ble_eq_true rfl) dX5_later_53 (fun _ => rfl) (fun zu5 zk5 => ?_)
        refine j_st (st' := [.ref ((ax 2))]) rfl ?_
        refine j_astore 56 cx [(6, .ref ((ax 2))), (5, .int (nI j)), (4, .int ((bstI (lateF m (sN S) n) (daysF (sN S) m 0 2) j).2)), (3, .int ((bstI (lateF m (sN S) n) (daysF (sN S) m 0 2) j).1)), (1, .int n), (0, .ref o)] dX5_later_56 (by decide) rfl ?_
        refine j_aload 58 cx 0 dX5_later_58 rfl ?_
        refine j_get 60 cx 9 9 (T := TX1) (v := .ref (qt 6)) (fun _ h => List.mem_cons_of_mem _ (List.mem_append_left _ (List.mem_append_right _ (h)))) (List.mem_of_getElem? (i := 5) rfl) (ci := 0) rfl (by decide) rfl rfl rfl dX5_later_60 ?_
        refine j_iload 63 cx 1 dX5_later_63 rfl ?_
        refine j_iload_n 65 cx 4 dX5_later_65 rfl ?_
        refine j_iast 66 cx 15 j (wXO o ax (sP S) ++ ([((ax 7), .inl (gI G, 7, .inl (sF S)))] ++ (wN G (ax 1) qh (sN S) ++ wN G (ax 2) qt (up2 (sN S) 6 j n)))) rfl rfl (by omega) (by decide) rfl dX5_later_66 ?_
        refine j_aload 67 cx 0 dX5_later_67 rfl ?_
        refine j_sipush 69 cx 200 dX5_later_69 (by decide) ?_
        refine j_top (nI m) (by rw [hm]; rfl) ?_
        refine j_callV_v 72 cx 1 [9, 10, 11, 12, 13, 14, 15] [.int (nI m)] (fun _ => wXO o ax (sP S) ++ ([((ax 7), .inl (gI G, 7, .inl (sF S)))] ++ (wN G (ax 1) qh (sN S) ++ wN G (ax 2) qt (daysF (up2 (sN S) 6 j n) m)))) (c_X1_passDays (kl K) G (ax 2) qt (up2 (sN S) 6 j n) (inv_up6 hI j hn99) m (by have h9 : dyN (up2 (sN S) 6 j n) ≤ 9999 := hD; omega)) gX5_later_X1_passDays rfl rfl rfl ⟨rfl, by decide, by decide, rfl⟩ ⟨Nat.le_of_ble_eq_true rfl, Nat.le_of_ble_eq_true rfl⟩ ⟨Nat.zero_le _, Nat.zero_le _⟩ rfl (by decide) (ci := 0) 0 rfl rfl rfl rfl rfl (Nat.le_of_ble_eq_true rfl) dX5_later_72 (fun _ => rfl) (fun zu6 zk6 => ?_)
        refine j_aload 75 cx 0 dX5_later_75 rfl ?_
        refine j_get 77 cx 9 2 (T := TX1) (v := .int ((daysF (up2 (sN S) 6 j n) m) 0 2)) (fun _ h => List.mem_cons_of_mem _ (List.mem_append_left _ (List.mem_append_right _ (h)))) (List.mem_of_getElem? (i := 2) rfl) (ci := 0) rfl (by decide) rfl rfl rfl dX5_later_77 ?_
        refine j_iload_n 80 cx 3 dX5_later_80 rfl ?_
        refine j_icmp_ge 81 cx 94 dX5_later_81 (by decide) (fun zc3 => ?_) (fun zc3 => ?_)
        · skip
          refine j_iinc 94 cx [(5, .int (nI (j + 1))), (6, .ref ((ax 2))), (4, .int ((bstI (lateF m (sN S) n) (daysF (sN S) m 0 2) j).2)), (3, .int ((bstI (lateF m (sN S) n) (daysF (sN S) m 0 2) j).1)), (1, .int n), (0, .ref o)] 1 (nI (j + 1)) dX5_later_94 rfl (iinc1 j) (by decide) rfl ?_
          refine j_goto 97 cx 40 dX5_later_97 (by decide) ?_
          refine j_lv [0, 2, 3, 4, 5] rfl ?_
          have h9 := ih40 (j + 1) (daysF (up2 (sN S) 6 j n) m) (by omega)
          rw [bstI_f (f := (lateF m (sN S) n)) zc3] at h9
          exact h9
        · skip
          refine j_aload 84 cx 0 dX5_later_84 rfl ?_
          refine j_get 86 cx 9 2 (T := TX1) (v := .int ((daysF (up2 (sN S) 6 j n) m) 0 2)) (fun _ h => List.mem_cons_of_mem _ (List.mem_append_left _ (List.mem_append_right _ (h)))) (List.mem_of_getElem? (i := 2) rfl) (ci := 0) rfl (by decide) rfl rfl rfl dX5_later_86 ?_
          refine j_istore_n 89 cx [(3, .int ((daysF (up2 (sN S) 6 j n) m) 0 2)), (6, .ref ((ax 2))), (5, .int (nI j)), (4, .int ((bstI (lateF m (sN S) n) (daysF (sN S) m 0 2) j).2)), (1, .int n), (0, .ref o)] dX5_later_89 (by decide) rfl ?_
          refine j_iload 90 cx 2 dX5_later_90 rfl ?_
          refine j_istore 92 cx [(4, .int (nI j)), (3, .int ((daysF (up2 (sN S) 6 j n) m) 0 2)), (6, .ref ((ax 2))), (5, .int (nI j)), (1, .int n), (0, .ref o)] dX5_later_92 (by decide) rfl ?_
          refine j_iinc 94 cx [(5, .int (nI (j + 1))), (4, .int (nI j)), (3, .int ((daysF (up2 (sN S) 6 j n) m) 0 2)), (6, .ref ((ax 2))), (1, .int n), (0, .ref o)] 3 (nI (j + 1)) dX5_later_94 rfl (iinc1 j) (by decide) rfl ?_
          refine j_goto 97 cx 40 dX5_later_97 (by decide) ?_
          refine j_lv [0, 1, 2, 4, 5] rfl ?_
          have h9 := ih40 (j + 1) (daysF (up2 (sN S) 6 j n) m) (by omega)
          rw [bstI_t (f := (lateF m (sN S) n)) zc3] at h9
          exact h9
    refine j_lv [0, 1, 2, 5, 4] rfl ?_
    exact L40 (szN (sN S)) 0 (daysF (sN S) m) (by omega)
  · skip
    refine j_aload_n 10 cx 0 dX5_later_10 rfl ?_
    refine j_ldc 11 cx (v := -1000000001) (List.mem_of_getElem? (i := 1) rfl) dX5_later_11 ?_
    refine j_callV_i 13 cx 1 [0, 1] [.int (fcode 0)] (fun _ => wXO o ax (sP S) ++ ([((ax 7), .inl (gI G, 7, .inl (upd (sF S) 0 ((sF S) 0 + 1))))] ++ (wN G (ax 1) qh (sN S) ++ wN G (ax 2) qt τ))) (c_X5_finding (kl K) G o ax (sP S) (sF S) 0 (by decide)) gX5_later_X5_finding rfl rfl rfl ⟨rfl, by decide, by decide, rfl⟩ ⟨Nat.le_of_ble_eq_true rfl, Nat.le_of_ble_eq_true rfl⟩ ⟨Nat.zero_le _, Nat.zero_le _⟩ rfl (by decide) (ci := 4) 0 rfl rfl rfl rfl rfl (Nat.le_of_ble_eq_true rfl) dX5_later_13 (fun _ => rfl) (fun zu7 zk7 => ?_)
    refine j_top (fcode 0) rfl ?_
    have ze : (sp_laterM m n S) = bad S 0 := by unfold sp_laterM; simp [isP_eq hI, zc1]
    exact fin τ _ _ _ _ dX5_later_16 rfl (by rw [ze] <;> rfl) (by rw [ze] <;> rfl) trivial
theorem c_X5_later (l : Launch) (G : pG) (o : Nat) (ax : Nat → Nat) (qh qt qk : Nat → Nat) (S : St) (τ : Nu) (hI : Inv (sN S)) (hD : dyN (sN S) ≤ 9999) (n : Int32) : KI l G yX5_later wsX5_later ({ frames := 6, cells := 0, slots := 0, locals := 140 } : Room) [.ref o, .int n] (wXO o ax (sP S) ++ ([((ax 7), .inl (gI G, 7, .inl (sF S)))] ++ (wN G (ax 1) qh (sN S) ++ wN G (ax 2) qt τ))) (S := Nu) (fun _ => True) (fun _ => (sp_later n S).1) (fun u => wXO o ax (sP S) ++ ([((ax 7), .inl (gI G, 7, .inl (sF (sp_later n S).2)))] ++ (wN G (ax 1) qh (sN (sp_later n S).2) ++ wN G (ax 2) qt u))) := c_X5_laterM l G o ax qh qt qk S τ hI hD 200 rfl n
set_option maxRecDepth 100000 in
set_option maxHeartbeats 4000000 in
theorem c_X5_kind (l : Launch) (G : pG) (o : Nat) (ax : Nat → Nat) (qh qt qk : Nat → Nat) (S : St) (τ : Nu) (hI : Inv (sN S)) (hD : dyN (sN S) ≤ 9999) (p : Int32) : KI l G yX5_kind wsX5_kind ({ frames := 6, cells := 0, slots := 0, locals := 141 } : Room) [.ref o, .int p] (wXO o ax (sP S) ++ ([((ax 7), .inl (gI G, 7, .inl (sF S)))] ++ (wN G (ax 1) qh (sN S) ++ wN G (ax 2) qt τ))) (S := Nu) (fun _ => True) (fun u => (sp_kind p S).1) (fun u => wXO o ax (sP S) ++ ([((ax 7), .inl (gI G, 7, .inl (sF (sp_kind p S).2)))] ++ (wN G (ax 1) qh (sN (sp_kind p S).2) ++ wN G (ax 2) qt u))) := by
  refine ki_of [(0, .ref o), (1, .int p)] (own := RX5) (cc := cX5_kind) (nL := 7) (by decide +kernel) rfl rfl (Nat.le_of_ble_eq_true rfl) rfl (fun _ => rfl) (fun K cx fin => ?_)
  refine j_aload_n 0 cx 0 dX5_kind_0 rfl ?_
  refine j_iload_n 1 cx 1 dX5_kind_1 rfl ?_
  refine j_callV_i 2 cx 1 [0, 2, 3, 4, 5, 6, 7, 8] [.int p] (fun _ => wXO o ax (sP S) ++ ([((ax 7), .inl (gI G, 7, .inl (sF S)))] ++ (wN G (ax 1) qh (sN S) ++ wN G (ax 2) qt τ))) (c_X5_hasPart (kl K) G o ax (sP S) qh (sN S) p hI) gX5_kind_X5_hasPart rfl rfl rfl ⟨rfl, by decide, by decide, rfl⟩ ⟨Nat.le_of_ble_eq_true rfl, Nat.le_of_ble_eq_true rfl⟩ ⟨Nat.zero_le _, Nat.zero_le _⟩ rfl (by decide) (ci := 4) 0 rfl rfl rfl rfl rfl (Nat.le_of_ble_eq_true rfl) dX5_kind_2 (fun _ => rfl) (fun zu1 zk1 => ?_)
  refine j_top (bI (inI p 0 (nI (szN (sN S)) - 1))) rfl ?_
  refine j_ifB_ne 5 cx 15 dX5_kind_5 (by decide) (fun zc1 => ?_) (fun zc1 => ?_)
  · skip
    obtain ⟨k, hk, rfl⟩ := in_n (by have := hI.sz8; omega) zc1
    have h8 := hI.sz8
    have hkc : (nI k).toNatClampNeg = k := nI_clamp (by omega)
    refine j_ldc 15 cx (v := 100000) (List.mem_of_getElem? (i := 2) rfl) dX5_kind_15 ?_
    refine j_istore_n 17 cx [(2, .int 100000), (0, .ref o), (1, .int (nI k))] dX5_kind_17 (by decide) rfl ?_
    refine j_iconst 18 cx (-1) dX5_kind_18 (by decide) ?_
    refine j_istore_n 19 cx [(3, .int ((-1))), (2, .int 100000), (0, .ref o), (1, .int (nI k))] dX5_kind_19 (by decide) rfl ?_
    refine j_iconst 20 cx 0 dX5_kind_20 (by decide) ?_
    refine j_istore 21 cx [(4, .int 0), (3, .int ((-1))), (2, .int 100000), (0, .ref o), (1, .int (nI k))] dX5_kind_21 (by decide) rfl ?_
    have L23 : ∀ d : Nat, ∀ (j : Nat) (zt : Nu), (j + d = 6) → JJ G K 0 0 (wXO o ax (sP S) ++ ([((ax 7), .inl (gI G, 7, .inl (sF S)))] ++ (wN G (ax 1) qh (sN S) ++ wN G (ax 2) qt zt))) [(4, .int (nI j)), (3, .int ((bstK (sN S) k j).2)), (2, .int (tR 400 (bstK (sN S) k j).1)), (1, .int (nI k)), (0, .ref o)] 23 [] := by
      intro d
      induction d with
      | zero =>
        intro j zt hj
        refine j_iload 23 cx 0 dX5_kind_23 rfl ?_
        refine j_bipush 25 cx 6 dX5_kind_25 (by decide) ?_
        refine j_icmp_ge_T 27 cx 74 dX5_kind_27 (by decide) (nI_le (a := 6) (by omega) (by omega)) ?_
        refine j_iload_n 74 cx 1 dX5_kind_74 rfl ?_
        refine j_if_ge 75 cx 87 dX5_kind_75 (by decide) (fun zc2 => ?_) (fun zc2 => ?_)
        · skip
          refine j_iload_n 87 cx 1 dX5_kind_87 rfl ?_
          have ze : (sp_kind (nI k) S) = ((bstK (sN S) k j).2, S) := by unfold sp_kind; rw [isP_eq hI, if_pos zc1, show pN (nI k) = k from hkc, show 6 = j from by omega]; exact orB_T zc2
          exact fin zt _ _ _ _ dX5_kind_88 rfl (by rw [ze] <;> rfl) (by rw [ze] <;> rfl) trivial
        · skip
          refine j_aload_n 78 cx 4 dX5_kind_78 rfl ?_
          refine j_ldc 79 cx (v := -1000000004) (List.mem_of_getElem? (i := 4) rfl) dX5_kind_79 ?_
          refine j_callV_i 81 cx 1 [0, 1] [.int (fcode 3)] (fun _ => wXO o ax (sP S) ++ ([((ax 7), .inl (gI G, 7, .inl (upd (sF S) 3 ((sF S) 3 + 1))))] ++ (wN G (ax 1) qh (sN S) ++ wN G (ax 2) qt zt))) (c_X5_finding (kl K) G o ax (sP S) (sF S) 3 (by decide)) gX5_kind_X5_finding rfl rfl rfl ⟨rfl, by decide, by decide, rfl⟩ ⟨Nat.le_of_ble_eq_true rfl, Nat.le_of_ble_eq_true rfl⟩ ⟨Nat.zero_le _, Nat.zero_le _⟩ rfl (by decide) (ci := 4) 0 rfl rfl rfl rfl rfl (Nat.le_of_ble_eq_true rfl) dX5_kind_81 (fun _ => rfl) (fun zu2 zk2 => ?_)
          refine j_top (fcode 3) rfl ?_
          refine j_goto 84 cx 88 dX5_kind_84 (by decide) ?_
          have ze : (sp_kind (nI k) S) = bad S 3 := by unfold sp_kind; rw [isP_eq hI, if_pos zc1, show pN (nI k) = k from hkc, show 6 = j from by omega]; exact orB_F zc2
          exact fin zt _ _ _ _ dX5_kind_88 rfl (by rw [ze] <;> rfl) (by rw [ze] <;> rfl) trivial
      | succ d ih23 =>
        intro j zt hj
        refine j_iload 23 cx 0 dX5_kind_23 rfl ?_
        refine j_bipush 25 cx 6 dX5_kind_25 (by decide) ?_
        refine j_icmp_ge_F 27 cx 74 dX5_kind_27 (by decide) (nI_ge (b := 6) (by omega) (by omega)) ?_
        refine j_aload_n 30 cx 4 dX5_kind_30 rfl ?_
        refine j_callV_q 31 cx 0 [0, 2, 3, 4, 5, 6, 7, 8, 9, 10, 11, 12, 13, 14, 15] [] (fun _ => wXO o ax (sP S) ++ ([((ax 7), .inl (gI G, 7, .inl (sF S)))] ++ (wN G (ax 1) qh (sN S) ++ wN G (ax 2) qt (sN S)))) (c_X5_rehearsal (kl K) G o ax (sP S) qh qt (sN S) zt) gX5_kind_X5_rehearsal rfl rfl rfl ⟨rfl, by decide, by decide, rfl⟩ ⟨Nat.le_of_ble_eq_true rfl, Nat.le_of_ble_eq_true rfl⟩ ⟨Nat.zero_le _, Nat.zero_le _⟩ rfl (by decide) (ci := 4) 0 rfl rfl rfl rfl rfl (Nat.le_of_ble_eq_true rfl) dX5_kind_31 (fun _ => rfl) (fun zu3 zk3 => ?_)
        refine j_st (st' := [.ref ((ax 2))]) rfl ?_
        refine j_astore 34 cx [(5, .ref ((ax 2))), (4, .int (nI j)), (3, .int ((bstK (sN S) k j).2)), (2, .int (tR 400 (bstK (sN S) k j).1)), (1, .int (nI k)), (0, .ref o)] dX5_kind_34 (by decide) rfl ?_
        refine j_aload 36 cx 0 dX5_kind_36 rfl ?_
        refine j_get 38 cx 9 5 (T := TX1) (v := .ref (qt 2)) (fun _ h => List.mem_cons_of_mem _ (List.mem_append_left _ (List.mem_append_right _ (h)))) (List.mem_of_getElem? (i := 3) rfl) (ci := 0) rfl (by decide) rfl rfl rfl dX5_kind_38 ?_
        refine j_iload_n 41 cx 4 dX5_kind_41 rfl ?_
        refine j_iload 42 cx 1 dX5_kind_42 rfl ?_
        refine j_iast 44 cx 11 k (wXO o ax (sP S) ++ ([((ax 7), .inl (gI G, 7, .inl (sF S)))] ++ (wN G (ax 1) qh (sN S) ++ wN G (ax 2) qt (up2 (sN S) 2 k (nI j))))) rfl rfl (by omega) (by decide) rfl dX5_kind_44 ?_
        refine j_aload 45 cx 0 dX5_kind_45 rfl ?_
        refine j_iload_n 47 cx 4 dX5_kind_47 rfl ?_
        refine j_sipush 48 cx 400 dX5_kind_48 (by decide) ?_
        refine j_callV_i 51 cx 2 [9, 10, 11, 12, 13, 14, 15] [.int (nI k), .int 400] (fun zu4 => wXO o ax (sP S) ++ ([((ax 7), .inl (gI G, 7, .inl (sF S)))] ++ (wN G (ax 1) qh (sN S) ++ wN G (ax 2) qt zu4))) (c_X1_daysTillDone (kl K) G (ax 2) qt (up2 (sN S) 2 k (nI j)) (inv_upx hI 2 k (nI j) (by omega)) k (by omega) 400 (by omega) (by have h9 : dyN (up2 (sN S) 2 k (nI j)) ≤ 9999 := hD; omega)) gX5_kind_X1_daysTillDone rfl rfl rfl ⟨rfl, by decide, by decide, rfl⟩ ⟨Nat.le_of_ble_eq_true rfl, Nat.le_of_ble_eq_true rfl⟩ ⟨Nat.zero_le _, Nat.zero_le _⟩ rfl (by decide) (ci := 0) 0 rfl rfl rfl rfl rfl (Nat.le_of_ble_eq_true rfl) dX5_kind_51 (fun _ => rfl) (fun zu4 zk4 => ?_)
        refine j_top (tR 400 (till (gDone k) 400 (up2 (sN S) 2 k (nI j)))) rfl ?_
        refine j_istore 54 cx [(6, .int (tR 400 (till (gDone k) 400 (up2 (sN S) 2 k (nI j))))), (5, .ref ((ax 2))), (4, .int (nI j)), (3, .int ((bstK (sN S) k j).2)), (2, .int (tR 400 (bstK (sN S) k j).1)), (1, .int (nI k)), (0, .ref o)] dX5_kind_54 (by decide) rfl ?_
        refine j_iload 56 cx 0 dX5_kind_56 rfl ?_
        refine j_iload_n 58 cx 4 dX5_kind_58 rfl ?_
        refine j_icmp_ge 59 cx 68 dX5_kind_59 (by decide) (fun zc3 => ?_) (fun zc3 => ?_)
        · skip
          refine j_iinc 68 cx [(4, .int (nI (j + 1))), (6, .int (tR 400 (till (gDone k) 400 (up2 (sN S) 2 k (nI j))))), (5, .ref ((ax 2))), (3, .int ((bstK (sN S) k j).2)), (2, .int (tR 400 (bstK (sN S) k j).1)), (1, .int (nI k)), (0, .ref o)] 2 (nI (j + 1)) dX5_kind_68 rfl (iinc1 j) (by decide) rfl ?_
          refine j_goto 71 cx 23 dX5_kind_71 (by decide) ?_
          refine j_lv [0, 3, 4, 5, 6] rfl ?_
          have h9 := ih23 (j + 1) zu4 (by omega)
          rw [show bstK (sN S) k (j + 1) = (bstK (sN S) k j) from bst_skip (m := 400) (by omega) (by omega) (kindT_le _ _) zc3] at h9
          exact h9
        · skip
          refine j_iload 62 cx 0 dX5_kind_62 rfl ?_
          refine j_istore_n 64 cx [(2, .int (tR 400 (till (gDone k) 400 (up2 (sN S) 2 k (nI j))))), (6, .int (tR 400 (till (gDone k) 400 (up2 (sN S) 2 k (nI j))))), (5, .ref ((ax 2))), (4, .int (nI j)), (3, .int ((bstK (sN S) k j).2)), (1, .int (nI k)), (0, .ref o)] dX5_kind_64 (by decide) rfl ?_
          refine j_iload 65 cx 3 dX5_kind_65 rfl ?_
          refine j_istore_n 67 cx [(3, .int (nI j)), (2, .int (tR 400 (till (gDone k) 400 (up2 (sN S) 2 k (nI j))))), (6, .int (tR 400 (till (gDone k) 400 (up2 (sN S) 2 k (nI j))))), (5, .ref ((ax 2))), (4, .int (nI j)), (1, .int (nI k)), (0, .ref o)] dX5_kind_67 (by decide) rfl ?_
          refine j_iinc 68 cx [(4, .int (nI (j + 1))), (3, .int (nI j)), (2, .int (tR 400 (till (gDone k) 400 (up2 (sN S) 2 k (nI j))))), (6, .int (tR 400 (till (gDone k) 400 (up2 (sN S) 2 k (nI j))))), (5, .ref ((ax 2))), (1, .int (nI k)), (0, .ref o)] 4 (nI (j + 1)) dX5_kind_68 rfl (iinc1 j) (by decide) rfl ?_
          refine j_goto 71 cx 23 dX5_kind_71 (by decide) ?_
          refine j_lv [0, 1, 2, 5, 6] rfl ?_
          have h9 := ih23 (j + 1) zu4 (by omega)
          rw [show bstK (sN S) k (j + 1) = (kindT (sN S) k j, nI j) from bst_take (m := 400) (by omega) (by omega) (kindT_le _ _) rfl zc3] at h9
          exact h9
    refine j_lv [0, 1, 2, 4, 3] rfl ?_
    exact L23 6 0 τ (by omega)
  · skip
    refine j_aload_n 8 cx 0 dX5_kind_8 rfl ?_
    refine j_ldc 9 cx (v := -1000000001) (List.mem_of_getElem? (i := 1) rfl) dX5_kind_9 ?_
    refine j_callV_i 11 cx 1 [0, 1] [.int (fcode 0)] (fun _ => wXO o ax (sP S) ++ ([((ax 7), .inl (gI G, 7, .inl (upd (sF S) 0 ((sF S) 0 + 1))))] ++ (wN G (ax 1) qh (sN S) ++ wN G (ax 2) qt τ))) (c_X5_finding (kl K) G o ax (sP S) (sF S) 0 (by decide)) gX5_kind_X5_finding rfl rfl rfl ⟨rfl, by decide, by decide, rfl⟩ ⟨Nat.le_of_ble_eq_true rfl, Nat.le_of_ble_eq_true rfl⟩ ⟨Nat.zero_le _, Nat.zero_le _⟩ rfl (by decide) (ci := 4) 0 rfl rfl rfl rfl rfl (Nat.le_of_ble_eq_true rfl) dX5_kind_11 (fun _ => rfl) (fun zu6 zk5 => ?_)
    refine j_top (fcode 0) rfl ?_
    have ze : (sp_kind p S) = bad S 0 := by unfold sp_kind; simp [isP_eq hI, zc1]
    exact fin τ _ _ _ _ dX5_kind_14 rfl (by rw [ze] <;> rfl) (by rw [ze] <;> rfl) trivial
set_option maxRecDepth 100000 in
set_option maxHeartbeats 4000000 in
theorem c_X5_holiday (l : Launch) (G : pG) (o : Nat) (ax : Nat → Nat) (qh qt qk : Nat → Nat) (S : St) (τ : Nu) (hI : Inv (sN S)) (hD : dyN (sN S) ≤ 9999)  : KI l G yX5_holiday wsX5_holiday ({ frames := 6, cells := 0, slots := 0, locals := 140 } : Room) [.ref o] (wXO o ax (sP S) ++ ([((ax 7), .inl (gI G, 7, .inl (sF S)))] ++ (wN G (ax 1) qh (sN S) ++ wN G (ax 2) qt τ))) (S := Nu) (fun _ => True) (fun u => (sp_holiday S).1) (fun u => wXO o ax (sP S) ++ ([((ax 7), .inl (gI G, 7, .inl (sF (sp_holiday S).2)))] ++ (wN G (ax 1) qh (sN (sp_holiday S).2) ++ wN G (ax 2) qt u))) := by
  refine ki_of [(0, .ref o)] (own := RX5) (cc := cX5_holiday) (nL := 6) (by decide +kernel) rfl rfl (Nat.le_of_ble_eq_true rfl) rfl (fun _ => rfl) (fun K cx fin => ?_)
  refine j_aload_n 0 cx 0 dX5_holiday_0 rfl ?_
  refine j_callV_q 1 cx 0 [0, 2, 3, 4, 5, 6, 7, 8, 9, 10, 11, 12, 13, 14, 15] [] (fun _ => wXO o ax (sP S) ++ ([((ax 7), .inl (gI G, 7, .inl (sF S)))] ++ (wN G (ax 1) qh (sN S) ++ wN G (ax 2) qt (sN S)))) (c_X5_rehearsal (kl K) G o ax (sP S) qh qt (sN S) τ) gX5_holiday_X5_rehearsal rfl rfl rfl ⟨rfl, by decide, by decide, rfl⟩ ⟨Nat.le_of_ble_eq_true rfl, Nat.le_of_ble_eq_true rfl⟩ ⟨Nat.zero_le _, Nat.zero_le _⟩ rfl (by decide) (ci := 4) 0 rfl rfl rfl rfl rfl (Nat.le_of_ble_eq_true rfl) dX5_holiday_1 (fun _ => rfl) (fun zu1 zk1 => ?_)
  refine j_st (st' := [.ref ((ax 2))]) rfl ?_
  refine j_sipush 4 cx 400 dX5_holiday_4 (by decide) ?_
  refine j_callV_i 7 cx 1 [9, 10, 11, 12, 13, 14, 15] [.int 400] (fun zu2 => wXO o ax (sP S) ++ ([((ax 7), .inl (gI G, 7, .inl (sF S)))] ++ (wN G (ax 1) qh (sN S) ++ wN G (ax 2) qt zu2))) (c_X1_daysTillAllDone (kl K) G (ax 2) qt (sN S) hI hI.sz8 400 (by omega) (by have := hD; omega)) gX5_holiday_X1_daysTillAllDone rfl rfl rfl ⟨rfl, by decide, by decide, rfl⟩ ⟨Nat.le_of_ble_eq_true rfl, Nat.le_of_ble_eq_true rfl⟩ ⟨Nat.zero_le _, Nat.zero_le _⟩ rfl (by decide) (ci := 0) 0 rfl rfl rfl rfl rfl (Nat.le_of_ble_eq_true rfl) dX5_holiday_7 (fun _ => rfl) (fun zu2 zk2 => ?_)
  refine j_top (tR 400 (till gAll 400 (sN S))) rfl ?_
  refine j_istore_n 10 cx [(1, .int (tR 400 (till gAll 400 (sN S)))), (0, .ref o)] dX5_holiday_10 (by decide) rfl ?_
  refine j_iconst 11 cx (-1) dX5_holiday_11 (by decide) ?_
  refine j_istore_n 12 cx [(2, .int ((-1))), (1, .int (tR 400 (till gAll 400 (sN S)))), (0, .ref o)] dX5_holiday_12 (by decide) rfl ?_
  refine j_iconst 13 cx 0 dX5_holiday_13 (by decide) ?_
  refine j_istore_n 14 cx [(3, .int 0), (2, .int ((-1))), (1, .int (tR 400 (till gAll 400 (sN S)))), (0, .ref o)] dX5_holiday_14 (by decide) rfl ?_
  have L15 : ∀ d : Nat, ∀ (j : Nat) (zt : Nu), (j + d = 7) → JJ G K 0 0 (wXO o ax (sP S) ++ ([((ax 7), .inl (gI G, 7, .inl (sF S)))] ++ (wN G (ax 1) qh (sN S) ++ wN G (ax 2) qt zt))) [(3, .int (nI j)), (2, .int ((bstH (sN S) j).2)), (1, .int (tR 400 (bstH (sN S) j).1)), (0, .ref o)] 15 [] := by
    intro d
    induction d with
    | zero =>
      intro j zt hj
      refine j_iload_n 15 cx 0 dX5_holiday_15 rfl ?_
      refine j_bipush 16 cx 7 dX5_holiday_16 (by decide) ?_
      refine j_icmp_ge_T 18 cx 74 dX5_holiday_18 (by decide) (nI_le (a := 7) (by omega) (by omega)) ?_
      refine j_iload_n 74 cx 1 dX5_holiday_74 rfl ?_
      refine j_if_ge 75 cx 87 dX5_holiday_75 (by decide) (fun zc1 => ?_) (fun zc1 => ?_)
      · skip
        refine j_iload_n 87 cx 1 dX5_holiday_87 rfl ?_
        have ze : (sp_holiday S) = ((bstH (sN S) j).2, S) := by unfold sp_holiday; rw [show 7 = j from by omega]; exact orB_T zc1
        exact fin zt _ _ _ _ dX5_holiday_88 rfl (by rw [ze] <;> rfl) (by rw [ze] <;> rfl) trivial
      · skip
        refine j_aload_n 78 cx 3 dX5_holiday_78 rfl ?_
        refine j_ldc 79 cx (v := -1000000004) (List.mem_of_getElem? (i := 3) rfl) dX5_holiday_79 ?_
        refine j_callV_i 81 cx 1 [0, 1] [.int (fcode 3)] (fun _ => wXO o ax (sP S) ++ ([((ax 7), .inl (gI G, 7, .inl (upd (sF S) 3 ((sF S) 3 + 1))))] ++ (wN G (ax 1) qh (sN S) ++ wN G (ax 2) qt zt))) (c_X5_finding (kl K) G o ax (sP S) (sF S) 3 (by decide)) gX5_holiday_X5_finding rfl rfl rfl ⟨rfl, by decide, by decide, rfl⟩ ⟨Nat.le_of_ble_eq_true rfl, Nat.le_of_ble_eq_true rfl⟩ ⟨Nat.zero_le _, Nat.zero_le _⟩ rfl (by decide) (ci := 4) 0 rfl rfl rfl rfl rfl (Nat.le_of_ble_eq_true rfl) dX5_holiday_81 (fun _ => rfl) (fun zu4 zk3 => ?_)
        refine j_top (fcode 3) rfl ?_
        refine j_goto 84 cx 88 dX5_holiday_84 (by decide) ?_
        have ze : (sp_holiday S) = bad S 3 := by unfold sp_holiday; rw [show 7 = j from by omega]; exact orB_F zc1
        exact fin zt _ _ _ _ dX5_holiday_88 rfl (by rw [ze] <;> rfl) (by rw [ze] <;> rfl) trivial
    | succ d ih15 =>
      intro j zt hj
      refine j_iload_n 15 cx 0 dX5_holiday_15 rfl ?_
      refine j_bipush 16 cx 7 dX5_holiday_16 (by decide) ?_
      refine j_icmp_ge_F 18 cx 74 dX5_holiday_18 (by decide) (nI_ge (b := 7) (by omega) (by omega)) ?_
      refine j_aload_n 21 cx 3 dX5_holiday_21 rfl ?_
      refine j_get 22 cx 0 0 (T := TX5) (v := .ref ((ax 1))) (fun _ h => List.mem_cons_of_mem _ (List.mem_append_left _ (List.mem_append_right _ (h)))) (List.mem_of_getElem? (i := 1) rfl) (ci := 4) rfl (by decide) rfl rfl rfl dX5_holiday_22 ?_
      refine j_get 25 cx 2 4 (T := TX1) (v := .ref (qh 1)) (fun _ h => List.mem_cons_of_mem _ (List.mem_append_right _ (h))) (List.mem_of_getElem? (i := 2) rfl) (ci := 0) rfl (by decide) rfl rfl rfl dX5_holiday_25 ?_
      refine j_iload_n 28 cx 0 dX5_holiday_28 rfl ?_
      refine j_iald 29 cx 3 j rfl rfl (by omega) (by decide) dX5_holiday_29 ?_
      refine j_if_ne 30 cx 68 dX5_holiday_30 (by decide) (fun zc2 => ?_) (fun zc2 => ?_)
      · skip
        refine j_iinc 68 cx [(3, .int (nI (j + 1))), (2, .int ((bstH (sN S) j).2)), (1, .int (tR 400 (bstH (sN S) j).1)), (0, .ref o)] 0 (nI (j + 1)) dX5_holiday_68 rfl (iinc1 j) (by decide) rfl ?_
        refine j_goto 71 cx 15 dX5_holiday_71 (by decide) ?_
        have h9 := ih15 (j + 1) zt (by omega)
        rw [show bstH (sN S) (j + 1) = (bstH (sN S) j) from bst_no (decide_eq_false zc2)] at h9
        exact h9
      · skip
        refine j_aload_n 33 cx 3 dX5_holiday_33 rfl ?_
        refine j_callV_q 34 cx 0 [0, 2, 3, 4, 5, 6, 7, 8, 9, 10, 11, 12, 13, 14, 15] [] (fun _ => wXO o ax (sP S) ++ ([((ax 7), .inl (gI G, 7, .inl (sF S)))] ++ (wN G (ax 1) qh (sN S) ++ wN G (ax 2) qt (sN S)))) (c_X5_rehearsal (kl K) G o ax (sP S) qh qt (sN S) zt) gX5_holiday_X5_rehearsal rfl rfl rfl ⟨rfl, by decide, by decide, rfl⟩ ⟨Nat.le_of_ble_eq_true rfl, Nat.le_of_ble_eq_true rfl⟩ ⟨Nat.zero_le _, Nat.zero_le _⟩ rfl (by decide) (ci := 4) 0 rfl rfl rfl rfl rfl (Nat.le_of_ble_eq_true rfl) dX5_holiday_34 (fun _ => rfl) (fun zu5 zk4 => ?_)
        refine j_st (st' := [.ref ((ax 2))]) rfl ?_
        refine j_astore 37 cx [(4, .ref ((ax 2))), (3, .int (nI j)), (2, .int ((bstH (sN S) j).2)), (1, .int (tR 400 (bstH (sN S) j).1)), (0, .ref o)] dX5_holiday_37 (by decide) rfl ?_
        refine j_aload 39 cx 0 dX5_holiday_39 rfl ?_
        refine j_get 41 cx 9 4 (T := TX1) (v := .ref (qt 1)) (fun _ h => List.mem_cons_of_mem _ (List.mem_append_right _ (h))) (List.mem_of_getElem? (i := 2) rfl) (ci := 0) rfl (by decide) rfl rfl rfl dX5_holiday_41 ?_
        refine j_iload_n 44 cx 1 dX5_holiday_44 rfl ?_
        refine j_iconst 45 cx 1 dX5_holiday_45 (by decide) ?_
        refine j_iast 46 cx 10 j (wXO o ax (sP S) ++ ([((ax 7), .inl (gI G, 7, .inl (sF S)))] ++ (wN G (ax 1) qh (sN S) ++ wN G (ax 2) qt (up2 (sN S) 1 j 1)))) rfl rfl (by omega) (by decide) rfl dX5_holiday_46 ?_
        refine j_aload 47 cx 0 dX5_holiday_47 rfl ?_
        refine j_sipush 49 cx 400 dX5_holiday_49 (by decide) ?_
        refine j_callV_i 52 cx 1 [9, 10, 11, 12, 13, 14, 15] [.int 400] (fun zu6 => wXO o ax (sP S) ++ ([((ax 7), .inl (gI G, 7, .inl (sF S)))] ++ (wN G (ax 1) qh (sN S) ++ wN G (ax 2) qt zu6))) (c_X1_daysTillAllDone (kl K) G (ax 2) qt (up2 (sN S) 1 j 1) (inv_upx hI 1 j 1 (by omega)) (by exact hI.sz8) 400 (by omega) (by have h9 : dyN (up2 (sN S) 1 j 1) ≤ 9999 := hD; omega)) gX5_holiday_X1_daysTillAllDone rfl rfl rfl ⟨rfl, by decide, by decide, rfl⟩ ⟨Nat.le_of_ble_eq_true rfl, Nat.le_of_ble_eq_true rfl⟩ ⟨Nat.zero_le _, Nat.zero_le _⟩ rfl (by decide) (ci := 0) 0 rfl rfl rfl rfl rfl (Nat.le_of_ble_eq_true rfl) dX5_holiday_52 (fun _ => rfl) (fun zu6 zk5 => ?_)
        refine j_top (tR 400 (till gAll 400 (up2 (sN S) 1 j 1))) rfl ?_
        refine j_istore 55 cx [(5, .int (tR 400 (till gAll 400 (up2 (sN S) 1 j 1)))), (4, .ref ((ax 2))), (3, .int (nI j)), (2, .int ((bstH (sN S) j).2)), (1, .int (tR 400 (bstH (sN S) j).1)), (0, .ref o)] dX5_holiday_55 (by decide) rfl ?_
        refine j_iload 57 cx 0 dX5_holiday_57 rfl ?_
        refine j_iload_n 59 cx 4 dX5_holiday_59 rfl ?_
        refine j_icmp_ge 60 cx 68 dX5_holiday_60 (by decide) (fun zc3 => ?_) (fun zc3 => ?_)
        · skip
          refine j_iinc 68 cx [(3, .int (nI (j + 1))), (5, .int (tR 400 (till gAll 400 (up2 (sN S) 1 j 1)))), (4, .ref ((ax 2))), (2, .int ((bstH (sN S) j).2)), (1, .int (tR 400 (bstH (sN S) j).1)), (0, .ref o)] 2 (nI (j + 1)) dX5_holiday_68 rfl (iinc1 j) (by decide) rfl ?_
          refine j_goto 71 cx 15 dX5_holiday_71 (by decide) ?_
          refine j_lv [0, 3, 4, 5] rfl ?_
          have h9 := ih15 (j + 1) zu6 (by omega)
          rw [show bstH (sN S) (j + 1) = (bstH (sN S) j) from bst_skip (m := 400) (by omega) (till_le _ _ _) (holT_le _) zc3] at h9
          exact h9
        · skip
          refine j_iload 63 cx 0 dX5_holiday_63 rfl ?_
          refine j_istore_n 65 cx [(1, .int (tR 400 (till gAll 400 (up2 (sN S) 1 j 1)))), (5, .int (tR 400 (till gAll 400 (up2 (sN S) 1 j 1)))), (4, .ref ((ax 2))), (3, .int (nI j)), (2, .int ((bstH (sN S) j).2)), (0, .ref o)] dX5_holiday_65 (by decide) rfl ?_
          refine j_iload_n 66 cx 3 dX5_holiday_66 rfl ?_
          refine j_istore_n 67 cx [(2, .int (nI j)), (1, .int (tR 400 (till gAll 400 (up2 (sN S) 1 j 1)))), (5, .int (tR 400 (till gAll 400 (up2 (sN S) 1 j 1)))), (4, .ref ((ax 2))), (3, .int (nI j)), (0, .ref o)] dX5_holiday_67 (by decide) rfl ?_
          refine j_iinc 68 cx [(3, .int (nI (j + 1))), (2, .int (nI j)), (1, .int (tR 400 (till gAll 400 (up2 (sN S) 1 j 1)))), (5, .int (tR 400 (till gAll 400 (up2 (sN S) 1 j 1)))), (4, .ref ((ax 2))), (0, .ref o)] 4 (nI (j + 1)) dX5_holiday_68 rfl (iinc1 j) (by decide) rfl ?_
          refine j_goto 71 cx 15 dX5_holiday_71 (by decide) ?_
          refine j_lv [0, 1, 2, 5] rfl ?_
          have h9 := ih15 (j + 1) zu6 (by omega)
          rw [show bstH (sN S) (j + 1) = (holT (sN S) j, nI j) from bst_take (m := 400) (by omega) (till_le _ _ _) (holT_le _) (decide_eq_true zc2) zc3] at h9
          exact h9
  exact L15 7 0 zu2 (by omega)
set_option maxRecDepth 100000 in
set_option maxHeartbeats 4000000 in
theorem c_X5_last (l : Launch) (G : pG) (o : Nat) (ax : Nat → Nat) (qh qt qk : Nat → Nat) (S : St) (τ : Nu) (hI : Inv (sN S)) (hD : dyN (sN S) ≤ 9999)  : KI l G yX5_last wsX5_last ({ frames := 6, cells := 0, slots := 0, locals := 141 } : Room) [.ref o] (wXO o ax (sP S) ++ ([((ax 7), .inl (gI G, 7, .inl (sF S)))] ++ (wN G (ax 1) qh (sN S) ++ wN G (ax 2) qt τ))) (S := Nu) (fun _ => True) (fun u => (sp_last S).1) (fun u => wXO o ax (sP S) ++ ([((ax 7), .inl (gI G, 7, .inl (sF (sp_last S).2)))] ++ (wN G (ax 1) qh (sN (sp_last S).2) ++ wN G (ax 2) qt u))) := by
  refine ki_of [(0, .ref o)] (own := RX5) (cc := cX5_last) (nL := 5) (by decide +kernel) rfl rfl (Nat.le_of_ble_eq_true rfl) rfl (fun _ => rfl) (fun K cx fin => ?_)
  refine j_iconst 0 cx (-1) dX5_last_0 (by decide) ?_
  refine j_istore_n 1 cx [(1, .int ((-1))), (0, .ref o)] dX5_last_1 (by decide) rfl ?_
  refine j_iconst 2 cx (-1) dX5_last_2 (by decide) ?_
  refine j_istore_n 3 cx [(2, .int ((-1))), (1, .int ((-1))), (0, .ref o)] dX5_last_3 (by decide) rfl ?_
  refine j_iconst 4 cx 0 dX5_last_4 (by decide) ?_
  refine j_istore_n 5 cx [(3, .int 0), (2, .int ((-1))), (1, .int ((-1))), (0, .ref o)] dX5_last_5 (by decide) rfl ?_
  have L6 : ∀ d : Nat, ∀ (j : Nat) (zt : Nu), (j + d = szN (sN S)) → JJ G K 0 0 (wXO o ax (sP S) ++ ([((ax 7), .inl (gI G, 7, .inl (sF S)))] ++ (wN G (ax 1) qh (sN S) ++ wN G (ax 2) qt zt))) [(3, .int (nI j)), (2, .int ((bgt (lastT (sN S)) j).2)), (1, .int (lX (bgt (lastT (sN S)) j).1)), (0, .ref o)] 6 [] := by
    intro d
    induction d with
    | zero =>
      intro j zt hj
      have h8 := hI.sz8
      refine j_iload_n 6 cx 0 dX5_last_6 rfl ?_
      refine j_aload_n 7 cx 3 dX5_last_7 rfl ?_
      refine j_get 8 cx 0 0 (T := TX5) (v := .ref ((ax 1))) (fun _ h => List.mem_cons_of_mem _ (List.mem_append_left _ (List.mem_append_right _ (h)))) (List.mem_of_getElem? (i := 1) rfl) (ci := 4) rfl (by decide) rfl rfl rfl dX5_last_8 ?_
      refine j_get 11 cx 2 3 (T := TX1) (v := .int ((sN S) 0 3)) (fun _ h => List.mem_cons_of_mem _ (List.mem_append_right _ (h))) (List.mem_of_getElem? (i := 2) rfl) (ci := 0) rfl (by decide) rfl rfl rfl dX5_last_11 ?_
      refine j_top (nI (szN (sN S))) hI.sz ?_
      refine j_icmp_ge_T 14 cx 47 dX5_last_14 (by decide) (nI_le (by omega) (by omega)) ?_
      refine j_iload_n 47 cx 1 dX5_last_47 rfl ?_
      refine j_if_ge 48 cx 60 dX5_last_48 (by decide) (fun zc1 => ?_) (fun zc1 => ?_)
      · skip
        refine j_iload_n 60 cx 1 dX5_last_60 rfl ?_
        have ze : (sp_last S) = ((bgt (lastT (sN S)) j).2, S) := by unfold sp_last; rw [show szN (sN S) = j from by omega]; exact orB_T zc1
        exact fin zt _ _ _ _ dX5_last_61 rfl (by rw [ze] <;> rfl) (by rw [ze] <;> rfl) trivial
      · skip
        refine j_aload_n 51 cx 3 dX5_last_51 rfl ?_
        refine j_ldc 52 cx (v := -1000000004) (List.mem_of_getElem? (i := 3) rfl) dX5_last_52 ?_
        refine j_callV_i 54 cx 1 [0, 1] [.int (fcode 3)] (fun _ => wXO o ax (sP S) ++ ([((ax 7), .inl (gI G, 7, .inl (upd (sF S) 3 ((sF S) 3 + 1))))] ++ (wN G (ax 1) qh (sN S) ++ wN G (ax 2) qt zt))) (c_X5_finding (kl K) G o ax (sP S) (sF S) 3 (by decide)) gX5_last_X5_finding rfl rfl rfl ⟨rfl, by decide, by decide, rfl⟩ ⟨Nat.le_of_ble_eq_true rfl, Nat.le_of_ble_eq_true rfl⟩ ⟨Nat.zero_le _, Nat.zero_le _⟩ rfl (by decide) (ci := 4) 0 rfl rfl rfl rfl rfl (Nat.le_of_ble_eq_true rfl) dX5_last_54 (fun _ => rfl) (fun zu1 zk1 => ?_)
        refine j_top (fcode 3) rfl ?_
        refine j_goto 57 cx 61 dX5_last_57 (by decide) ?_
        have ze : (sp_last S) = bad S 3 := by unfold sp_last; rw [show szN (sN S) = j from by omega]; exact orB_F zc1
        exact fin zt _ _ _ _ dX5_last_61 rfl (by rw [ze] <;> rfl) (by rw [ze] <;> rfl) trivial
    | succ d ih6 =>
      intro j zt hj
      have h8 := hI.sz8
      refine j_iload_n 6 cx 0 dX5_last_6 rfl ?_
      refine j_aload_n 7 cx 3 dX5_last_7 rfl ?_
      refine j_get 8 cx 0 0 (T := TX5) (v := .ref ((ax 1))) (fun _ h => List.mem_cons_of_mem _ (List.mem_append_left _ (List.mem_append_right _ (h)))) (List.mem_of_getElem? (i := 1) rfl) (ci := 4) rfl (by decide) rfl rfl rfl dX5_last_8 ?_
      refine j_get 11 cx 2 3 (T := TX1) (v := .int ((sN S) 0 3)) (fun _ h => List.mem_cons_of_mem _ (List.mem_append_right _ (h))) (List.mem_of_getElem? (i := 2) rfl) (ci := 0) rfl (by decide) rfl rfl rfl dX5_last_11 ?_
      refine j_top (nI (szN (sN S))) hI.sz ?_
      refine j_icmp_ge_F 14 cx 47 dX5_last_14 (by decide) (nI_ge (by omega) (by omega)) ?_
      refine j_aload_n 17 cx 3 dX5_last_17 rfl ?_
      refine j_callV_q 18 cx 0 [0, 2, 3, 4, 5, 6, 7, 8, 9, 10, 11, 12, 13, 14, 15] [] (fun _ => wXO o ax (sP S) ++ ([((ax 7), .inl (gI G, 7, .inl (sF S)))] ++ (wN G (ax 1) qh (sN S) ++ wN G (ax 2) qt (sN S)))) (c_X5_rehearsal (kl K) G o ax (sP S) qh qt (sN S) zt) gX5_last_X5_rehearsal rfl rfl rfl ⟨rfl, by decide, by decide, rfl⟩ ⟨Nat.le_of_ble_eq_true rfl, Nat.le_of_ble_eq_true rfl⟩ ⟨Nat.zero_le _, Nat.zero_le _⟩ rfl (by decide) (ci := 4) 0 rfl rfl rfl rfl rfl (Nat.le_of_ble_eq_true rfl) dX5_last_18 (fun _ => rfl) (fun zu2 zk2 => ?_)
      refine j_st (st' := [.ref ((ax 2))]) rfl ?_
      refine j_iload_n 21 cx 0 dX5_last_21 rfl ?_
      refine j_sipush 22 cx 400 dX5_last_22 (by decide) ?_
      refine j_callV_i 25 cx 2 [9, 10, 11, 12, 13, 14, 15] [.int (nI j), .int 400] (fun zu3 => wXO o ax (sP S) ++ ([((ax 7), .inl (gI G, 7, .inl (sF S)))] ++ (wN G (ax 1) qh (sN S) ++ wN G (ax 2) qt zu3))) (c_X1_daysTillDone (kl K) G (ax 2) qt (sN S) hI j (by omega) 400 (by omega) (by have := hD; omega)) gX5_last_X1_daysTillDone rfl rfl rfl ⟨rfl, by decide, by decide, rfl⟩ ⟨Nat.le_of_ble_eq_true rfl, Nat.le_of_ble_eq_true rfl⟩ ⟨Nat.zero_le _, Nat.zero_le _⟩ rfl (by decide) (ci := 0) 0 rfl rfl rfl rfl rfl (Nat.le_of_ble_eq_true rfl) dX5_last_25 (fun _ => rfl) (fun zu3 zk3 => ?_)
      refine j_top (tR 400 (till (gDone j) 400 (sN S))) rfl ?_
      refine j_istore 28 cx [(4, .int (tR 400 (till (gDone j) 400 (sN S)))), (3, .int (nI j)), (2, .int ((bgt (lastT (sN S)) j).2)), (1, .int (lX (bgt (lastT (sN S)) j).1)), (0, .ref o)] dX5_last_28 (by decide) rfl ?_
      refine j_iload 30 cx 0 dX5_last_30 rfl ?_
      refine j_iload_n 32 cx 3 dX5_last_32 rfl ?_
      refine j_icmp_le 33 cx 41 dX5_last_33 (by decide) (fun zc2 => ?_) (fun zc2 => ?_)
      · skip
        refine j_iinc 41 cx [(3, .int (nI (j + 1))), (4, .int (tR 400 (till (gDone j) 400 (sN S)))), (2, .int ((bgt (lastT (sN S)) j).2)), (1, .int (lX (bgt (lastT (sN S)) j).1)), (0, .ref o)] 1 (nI (j + 1)) dX5_last_41 rfl (iinc1 j) (by decide) rfl ?_
        refine j_goto 44 cx 6 dX5_last_44 (by decide) ?_
        refine j_lv [0, 2, 3, 4] rfl ?_
        have h9 := ih6 (j + 1) zu3 (by omega)
        rw [bgt_f (t := lastT (sN S)) (lastT_le _) zc2] at h9
        exact h9
      · skip
        refine j_iload 36 cx 0 dX5_last_36 rfl ?_
        refine j_istore_n 38 cx [(1, .int (tR 400 (till (gDone j) 400 (sN S)))), (4, .int (tR 400 (till (gDone j) 400 (sN S)))), (3, .int (nI j)), (2, .int ((bgt (lastT (sN S)) j).2)), (0, .ref o)] dX5_last_38 (by decide) rfl ?_
        refine j_iload_n 39 cx 2 dX5_last_39 rfl ?_
        refine j_istore_n 40 cx [(2, .int (nI j)), (1, .int (tR 400 (till (gDone j) 400 (sN S)))), (4, .int (tR 400 (till (gDone j) 400 (sN S)))), (3, .int (nI j)), (0, .ref o)] dX5_last_40 (by decide) rfl ?_
        refine j_iinc 41 cx [(3, .int (nI (j + 1))), (2, .int (nI j)), (1, .int (tR 400 (till (gDone j) 400 (sN S)))), (4, .int (tR 400 (till (gDone j) 400 (sN S)))), (0, .ref o)] 3 (nI (j + 1)) dX5_last_41 rfl (iinc1 j) (by decide) rfl ?_
        refine j_goto 44 cx 6 dX5_last_44 (by decide) ?_
        refine j_lv [0, 1, 2, 4] rfl ?_
        have h9 := ih6 (j + 1) zu3 (by omega)
        rw [bgt_t (t := lastT (sN S)) (lastT_le _) zc2] at h9
        rw [show lX ((lastT (sN S) j + 1, nI j) : Nat × Int32).1 = tR 400 (lastT (sN S) j) from lX_s _] at h9
        exact h9
  exact L6 (szN (sN S)) 0 τ (by omega)
set_option maxRecDepth 100000 in
set_option maxHeartbeats 4000000 in
theorem c_X5_bears (l : Launch) (G : pG) (o : Nat) (ax : Nat → Nat) (qh qt qk : Nat → Nat) (S : St) (τ : Nu) (hI : Inv (sN S)) (hD : dyN (sN S) ≤ 9999) (n : Int32) : KI l G yX5_bears wsX5_bears ({ frames := 6, cells := 0, slots := 0, locals := 140 } : Room) [.ref o, .int n] (wXO o ax (sP S) ++ ([((ax 7), .inl (gI G, 7, .inl (sF S)))] ++ (wN G (ax 1) qh (sN S) ++ wN G (ax 2) qt τ))) (S := Nu) (fun _ => True) (fun u => (sp_bears n S).1) (fun u => wXO o ax (sP S) ++ ([((ax 7), .inl (gI G, 7, .inl (sF (sp_bears n S).2)))] ++ (wN G (ax 1) qh (sN (sp_bears n S).2) ++ wN G (ax 2) qt u))) := by
  refine ki_of [(0, .ref o), (1, .int n)] (own := RX5) (cc := cX5_bears) (nL := 4) (by decide +kernel) rfl rfl (Nat.le_of_ble_eq_true rfl) rfl (fun _ => rfl) (fun K cx fin => ?_)
  refine j_iload_n 0 cx 1 dX5_bears_0 rfl ?_
  refine j_iconst 1 cx 1 dX5_bears_1 (by decide) ?_
  refine j_sipush 2 cx 200 dX5_bears_2 (by decide) ?_
  refine j_callS_i 5 cx 3 [] [.int n, .int 1, .int 200] (fun _ => wXO o ax (sP S) ++ ([((ax 7), .inl (gI G, 7, .inl (sF S)))] ++ (wN G (ax 1) qh (sN S) ++ wN G (ax 2) qt τ))) (c_X5_inside (kl K) G n 1 200) gX5_bears_X5_inside rfl rfl rfl ⟨by decide, by decide, rfl⟩ ⟨Nat.le_of_ble_eq_true rfl, Nat.le_of_ble_eq_true rfl⟩ ⟨Nat.zero_le _, Nat.zero_le _⟩ rfl (by decide) rfl rfl (Nat.le_of_ble_eq_true rfl) dX5_bears_5 (fun _ => rfl) (fun zu1 zk1 => ?_)
  refine j_top (bI (inI n 1 200)) rfl ?_
  refine j_ifB_ne 8 cx 18 dX5_bears_8 (by decide) (fun zc1 => ?_) (fun zc1 => ?_)
  · skip
    obtain ⟨kn, hkn1, hkn2, rfl⟩ := in_c (L := 1) (M := 200) (a := 1) (m := 200) rfl rfl zc1
    have hckn : (nI kn).toNatClampNeg = kn := nI_clamp (by omega)
    refine j_bipush 18 cx 99 dX5_bears_18 (by decide) ?_
    refine j_istore_n 20 cx [(2, .int 99), (0, .ref o), (1, .int (nI kn))] dX5_bears_20 (by decide) rfl ?_
    have L21 : ∀ d : Nat, ∀ (x : Nat) (zt : Nu), (x = d) → (x ≤ 100) → (fl 0 (bearG (sN S) kn) 100 = fl 0 (bearG (sN S) kn) x) → JJ G K 0 0 (wXO o ax (sP S) ++ ([((ax 7), .inl (gI G, 7, .inl (sF S)))] ++ (wN G (ax 1) qh (sN S) ++ wN G (ax 2) qt zt))) [(2, .int (nI x - 1)), (1, .int (nI kn)), (0, .ref o)] 21 [] := by
      intro d
      induction d with
      | zero =>
        intro x zt hx hN hF
        subst hx
        rw [show nI 0 - 1 = -1 from rfl]
        refine j_iload_n 21 cx 0 dX5_bears_21 rfl ?_
        refine j_if_lt_T 22 cx 53 dX5_bears_22 (by decide) (by decide) ?_
        refine j_aload_n 53 cx 2 dX5_bears_53 rfl ?_
        refine j_ldc 54 cx (v := -1000000004) (List.mem_of_getElem? (i := 4) rfl) dX5_bears_54 ?_
        refine j_callV_i 56 cx 1 [0, 1] [.int (fcode 3)] (fun _ => wXO o ax (sP S) ++ ([((ax 7), .inl (gI G, 7, .inl (upd (sF S) 3 ((sF S) 3 + 1))))] ++ (wN G (ax 1) qh (sN S) ++ wN G (ax 2) qt zt))) (c_X5_finding (kl K) G o ax (sP S) (sF S) 3 (by decide)) gX5_bears_X5_finding rfl rfl rfl ⟨rfl, by decide, by decide, rfl⟩ ⟨Nat.le_of_ble_eq_true rfl, Nat.le_of_ble_eq_true rfl⟩ ⟨Nat.zero_le _, Nat.zero_le _⟩ rfl (by decide) (ci := 4) 0 rfl rfl rfl rfl rfl (Nat.le_of_ble_eq_true rfl) dX5_bears_56 (fun _ => rfl) (fun zu2 zk2 => ?_)
        refine j_top (fcode 3) rfl ?_
        have ze : (sp_bears (nI kn) S) = bad S 3 := by unfold sp_bears; rw [if_pos zc1, show pN (nI kn) = kn from hckn, hF]; exact orB_t (v := -1) (by decide)
        exact fin zt _ _ _ _ dX5_bears_59 rfl (by rw [ze] <;> rfl) (by rw [ze] <;> rfl) trivial
      | succ d ih21 =>
        intro x zt hx hN hF
        subst hx
        rw [nI_s1]
        refine j_iload_n 21 cx 0 dX5_bears_21 rfl ?_
        refine j_if_lt_F 22 cx 53 dX5_bears_22 (by decide) (nI_pos (by omega)) ?_
        refine j_aload_n 25 cx 2 dX5_bears_25 rfl ?_
        refine j_callV_q 26 cx 0 [0, 2, 3, 4, 5, 6, 7, 8, 9, 10, 11, 12, 13, 14, 15] [] (fun _ => wXO o ax (sP S) ++ ([((ax 7), .inl (gI G, 7, .inl (sF S)))] ++ (wN G (ax 1) qh (sN S) ++ wN G (ax 2) qt (sN S)))) (c_X5_rehearsal (kl K) G o ax (sP S) qh qt (sN S) zt) gX5_bears_X5_rehearsal rfl rfl rfl ⟨rfl, by decide, by decide, rfl⟩ ⟨Nat.le_of_ble_eq_true rfl, Nat.le_of_ble_eq_true rfl⟩ ⟨Nat.zero_le _, Nat.zero_le _⟩ rfl (by decide) (ci := 4) 0 rfl rfl rfl rfl rfl (Nat.le_of_ble_eq_true rfl) dX5_bears_26 (fun _ => rfl) (fun zu3 zk3 => ?_)
        refine j_st (st' := [.ref ((ax 2))]) rfl ?_
        refine j_astore_n 29 cx [(3, .ref ((ax 2))), (2, .int (nI d)), (1, .int (nI kn)), (0, .ref o)] dX5_bears_29 (by decide) rfl ?_
        refine j_aload_n 30 cx 0 dX5_bears_30 rfl ?_
        refine j_iload_n 31 cx 1 dX5_bears_31 rfl ?_
        refine j_put 32 cx 9 1 (wXO o ax (sP S) ++ ([((ax 7), .inl (gI G, 7, .inl (sF S)))] ++ (wN G (ax 1) qh (sN S) ++ wN G (ax 2) qt (up2 (sN S) 0 1 (nI d))))) (T := TX1) (ty0 := tyX1) (fun _ h => List.mem_cons_of_mem _ (List.mem_append_left _ (List.mem_append_right _ (h)))) (List.mem_of_getElem? (i := 2) rfl) (ci := 0) rfl (by decide) rfl tyX1_ok nmX1 rfl rfl rfl rfl (Nat.le_of_ble_eq_true rfl) rfl dX5_bears_32 ?_
        refine j_aload_n 35 cx 0 dX5_bears_35 rfl ?_
        refine j_iload_n 36 cx 2 dX5_bears_36 rfl ?_
        refine j_callV_i 37 cx 1 [9, 10, 11, 12, 13, 14, 15] [.int (nI kn)] (fun zu4 => wXO o ax (sP S) ++ ([((ax 7), .inl (gI G, 7, .inl (sF S)))] ++ (wN G (ax 1) qh (sN S) ++ wN G (ax 2) qt zu4))) (c_X1_daysTillAllDone (kl K) G (ax 2) qt (up2 (sN S) 0 1 (nI d)) (inv_upw hI (nI_99 (by omega))) (by exact hI.sz8) kn (by omega) (by have h9 : dyN (up2 (sN S) 0 1 (nI d)) ≤ 9999 := hD; omega)) gX5_bears_X1_daysTillAllDone rfl rfl rfl ⟨rfl, by decide, by decide, rfl⟩ ⟨Nat.le_of_ble_eq_true rfl, Nat.le_of_ble_eq_true rfl⟩ ⟨Nat.zero_le _, Nat.zero_le _⟩ rfl (by decide) (ci := 0) 0 rfl rfl rfl rfl rfl (Nat.le_of_ble_eq_true rfl) dX5_bears_37 (fun _ => rfl) (fun zu4 zk4 => ?_)
        refine j_top (tR kn (till gAll kn (up2 (sN S) 0 1 (nI d)))) rfl ?_
        refine j_ldc 40 cx (v := 100000) (List.mem_of_getElem? (i := 3) rfl) dX5_bears_40 ?_
        refine j_icmp_eq 42 cx 47 dX5_bears_42 (by decide) (fun zc2 => ?_) (fun zc2 => ?_)
        · skip
          refine j_iinc 47 cx [(2, .int (nI d - 1)), (3, .ref ((ax 2))), (1, .int (nI kn)), (0, .ref o)] 1 (nI d - 1) dX5_bears_47 rfl (i_m1 _) (by decide) rfl ?_
          refine j_goto 50 cx 21 dX5_bears_50 (by decide) ?_
          refine j_lv [0, 2, 3] rfl ?_
          exact ih21 d zu4 rfl (by omega) (hF.trans (fl_f (g := (bearG (sN S) kn)) (bear_n (by omega) zc2)))
        · skip
          refine j_iload_n 45 cx 1 dX5_bears_45 rfl ?_
          have ze : (sp_bears (nI kn) S) = (nI d, S) := by unfold sp_bears; rw [if_pos zc1, show pN (nI kn) = kn from hckn, hF, fl_t (a := 0) (k := d) (g := (bearG (sN S) kn)) (bear_y (by omega) zc2)]; exact orB_T (nI_pos' (by omega))
          exact fin zu4 _ _ _ _ dX5_bears_46 rfl (by rw [ze] <;> rfl) (by rw [ze] <;> rfl) trivial
    refine j_lv [0, 2, 1] rfl ?_
    exact L21 100 100 τ rfl (by omega) rfl
  · skip
    refine j_aload_n 11 cx 0 dX5_bears_11 rfl ?_
    refine j_ldc 12 cx (v := -1000000001) (List.mem_of_getElem? (i := 1) rfl) dX5_bears_12 ?_
    refine j_callV_i 14 cx 1 [0, 1] [.int (fcode 0)] (fun _ => wXO o ax (sP S) ++ ([((ax 7), .inl (gI G, 7, .inl (upd (sF S) 0 ((sF S) 0 + 1))))] ++ (wN G (ax 1) qh (sN S) ++ wN G (ax 2) qt τ))) (c_X5_finding (kl K) G o ax (sP S) (sF S) 0 (by decide)) gX5_bears_X5_finding rfl rfl rfl ⟨rfl, by decide, by decide, rfl⟩ ⟨Nat.le_of_ble_eq_true rfl, Nat.le_of_ble_eq_true rfl⟩ ⟨Nat.zero_le _, Nat.zero_le _⟩ rfl (by decide) (ci := 4) 0 rfl rfl rfl rfl rfl (Nat.le_of_ble_eq_true rfl) dX5_bears_14 (fun _ => rfl) (fun zu6 zk5 => ?_)
    refine j_top (fcode 0) rfl ?_
    have ze : (sp_bears n S) = bad S 0 := by unfold sp_bears; simp [isP_eq hI, zc1]
    exact fin τ _ _ _ _ dX5_bears_17 rfl (by rw [ze] <;> rfl) (by rw [ze] <;> rfl) trivial
set_option maxRecDepth 100000 in
set_option maxHeartbeats 4000000 in
theorem c_X5_longest (l : Launch) (G : pG) (o : Nat) (ax : Nat → Nat) (qh qt qk : Nat → Nat) (S : St) (τ : Nu) (hI : Inv (sN S)) (hD : dyN (sN S) ≤ 9999) (p : Int32) : KI l G yX5_longest wsX5_longest ({ frames := 6, cells := 0, slots := 0, locals := 141 } : Room) [.ref o, .int p] (wXO o ax (sP S) ++ ([((ax 7), .inl (gI G, 7, .inl (sF S)))] ++ (wN G (ax 1) qh (sN S) ++ wN G (ax 2) qt τ))) (S := Nu) (fun _ => True) (fun u => (sp_longest p S).1) (fun u => wXO o ax (sP S) ++ ([((ax 7), .inl (gI G, 7, .inl (sF (sp_longest p S).2)))] ++ (wN G (ax 1) qh (sN (sp_longest p S).2) ++ wN G (ax 2) qt u))) := by
  refine ki_of [(0, .ref o), (1, .int p)] (own := RX5) (cc := cX5_longest) (nL := 5) (by decide +kernel) rfl rfl (Nat.le_of_ble_eq_true rfl) rfl (fun _ => rfl) (fun K cx fin => ?_)
  refine j_aload_n 0 cx 0 dX5_longest_0 rfl ?_
  refine j_iload_n 1 cx 1 dX5_longest_1 rfl ?_
  refine j_callV_i 2 cx 1 [0, 2, 3, 4, 5, 6, 7, 8] [.int p] (fun _ => wXO o ax (sP S) ++ ([((ax 7), .inl (gI G, 7, .inl (sF S)))] ++ (wN G (ax 1) qh (sN S) ++ wN G (ax 2) qt τ))) (c_X5_hasPart (kl K) G o ax (sP S) qh (sN S) p hI) gX5_longest_X5_hasPart rfl rfl rfl ⟨rfl, by decide, by decide, rfl⟩ ⟨Nat.le_of_ble_eq_true rfl, Nat.le_of_ble_eq_true rfl⟩ ⟨Nat.zero_le _, Nat.zero_le _⟩ rfl (by decide) (ci := 4) 0 rfl rfl rfl rfl rfl (Nat.le_of_ble_eq_true rfl) dX5_longest_2 (fun _ => rfl) (fun zu1 zk1 => ?_)
  refine j_top (bI (inI p 0 (nI (szN (sN S)) - 1))) rfl ?_
  refine j_ifB_ne 5 cx 15 dX5_longest_5 (by decide) (fun zc1 => ?_) (fun zc1 => ?_)
  · skip
    obtain ⟨k, hk, rfl⟩ := in_n (by have := hI.sz8; omega) zc1
    have h8 := hI.sz8
    have hkc : (nI k).toNatClampNeg = k := nI_clamp (by omega)
    refine j_aload_n 15 cx 0 dX5_longest_15 rfl ?_
    refine j_get 16 cx 0 0 (T := TX5) (v := .ref ((ax 1))) (fun _ h => List.mem_cons_of_mem _ (List.mem_append_left _ (List.mem_append_right _ (h)))) (List.mem_of_getElem? (i := 2) rfl) (ci := 4) rfl (by decide) rfl rfl rfl dX5_longest_16 ?_
    refine j_get 19 cx 2 8 (T := TX1) (v := .ref (qh 5)) (fun _ h => List.mem_cons_of_mem _ (List.mem_append_right _ (h))) (List.mem_of_getElem? (i := 3) rfl) (ci := 0) rfl (by decide) rfl rfl rfl dX5_longest_19 ?_
    refine j_iload_n 22 cx 1 dX5_longest_22 rfl ?_
    refine j_iald 23 cx 7 k rfl rfl (by omega) (by decide) dX5_longest_23 ?_
    refine j_aload_n 24 cx 0 dX5_longest_24 rfl ?_
    refine j_get 25 cx 0 0 (T := TX5) (v := .ref ((ax 1))) (fun _ h => List.mem_cons_of_mem _ (List.mem_append_left _ (List.mem_append_right _ (h)))) (List.mem_of_getElem? (i := 2) rfl) (ci := 4) rfl (by decide) rfl rfl rfl dX5_longest_25 ?_
    refine j_get 28 cx 2 0 (T := TX1) (v := .int ((sN S) 0 0)) (fun _ h => List.mem_cons_of_mem _ (List.mem_append_right _ (h))) (List.mem_of_getElem? (i := 4) rfl) (ci := 0) rfl (by decide) rfl rfl rfl dX5_longest_28 ?_
    refine j_isub 31 cx dX5_longest_31 ?_
    refine j_iconst 32 cx 1 dX5_longest_32 (by decide) ?_
    refine j_iadd 33 cx dX5_longest_33 ?_
    refine j_top (((sN S) 5 k - (sN S) 0 0 + 1)) rfl ?_
    refine j_istore_n 34 cx [(2, .int ((sN S) 5 k - (sN S) 0 0 + 1)), (0, .ref o), (1, .int (nI k))] dX5_longest_34 (by decide) rfl ?_
    refine j_iload_n 35 cx 0 dX5_longest_35 rfl ?_
    refine j_iconst 36 cx 1 dX5_longest_36 (by decide) ?_
    refine j_sipush 37 cx 400 dX5_longest_37 (by decide) ?_
    refine j_callS_i 40 cx 3 [] [.int ((sN S) 5 k - (sN S) 0 0 + 1), .int 1, .int 400] (fun _ => wXO o ax (sP S) ++ ([((ax 7), .inl (gI G, 7, .inl (sF S)))] ++ (wN G (ax 1) qh (sN S) ++ wN G (ax 2) qt τ))) (c_X5_inside (kl K) G ((sN S) 5 k - (sN S) 0 0 + 1) 1 400) gX5_longest_X5_inside rfl rfl rfl ⟨by decide, by decide, rfl⟩ ⟨Nat.le_of_ble_eq_true rfl, Nat.le_of_ble_eq_true rfl⟩ ⟨Nat.zero_le _, Nat.zero_le _⟩ rfl (by decide) rfl rfl (Nat.le_of_ble_eq_true rfl) dX5_longest_40 (fun _ => rfl) (fun zu2 zk2 => ?_)
    refine j_top (bI (inI ((sN S) 5 k - (sN S) 0 0 + 1) 1 400)) rfl ?_
    refine j_ifB_ne 43 cx 53 dX5_longest_43 (by decide) (fun zc2 => ?_) (fun zc2 => ?_)
    · skip
      obtain ⟨kn, hkn1, hkn2, he⟩ := in_c (L := 1) (M := 400) (a := 1) (m := 400) rfl rfl zc2
      rw [he]
      have hckn : (nI kn).toNatClampNeg = kn := nI_clamp (by omega)
      refine j_bipush 53 cx 99 dX5_longest_53 (by decide) ?_
      refine j_istore_n 55 cx [(3, .int 99), (2, .int (nI kn)), (0, .ref o), (1, .int (nI k))] dX5_longest_55 (by decide) rfl ?_
      have L56 : ∀ d : Nat, ∀ (x : Nat) (zt : Nu), (x = d) → (x ≤ 99) → (fl 1 (longG (sN S) k kn) 99 = fl 1 (longG (sN S) k kn) x) → JJ G K 0 0 (wXO o ax (sP S) ++ ([((ax 7), .inl (gI G, 7, .inl (sF S)))] ++ (wN G (ax 1) qh (sN S) ++ wN G (ax 2) qt zt))) [(3, .int (nI x)), (2, .int (nI kn)), (1, .int (nI k)), (0, .ref o)] 56 [] := by
        intro d
        induction d with
        | zero =>
          intro x zt hx hN hF
          subst hx
          refine j_iload_n 56 cx 0 dX5_longest_56 rfl ?_
          refine j_iconst 57 cx 1 dX5_longest_57 (by decide) ?_
          refine j_icmp_lt_T 58 cx 95 dX5_longest_58 (by decide) (by decide) ?_
          refine j_aload_n 95 cx 3 dX5_longest_95 rfl ?_
          refine j_ldc 96 cx (v := -1000000004) (List.mem_of_getElem? (i := 8) rfl) dX5_longest_96 ?_
          refine j_callV_i 98 cx 1 [0, 1] [.int (fcode 3)] (fun _ => wXO o ax (sP S) ++ ([((ax 7), .inl (gI G, 7, .inl (upd (sF S) 3 ((sF S) 3 + 1))))] ++ (wN G (ax 1) qh (sN S) ++ wN G (ax 2) qt zt))) (c_X5_finding (kl K) G o ax (sP S) (sF S) 3 (by decide)) gX5_longest_X5_finding rfl rfl rfl ⟨rfl, by decide, by decide, rfl⟩ ⟨Nat.le_of_ble_eq_true rfl, Nat.le_of_ble_eq_true rfl⟩ ⟨Nat.zero_le _, Nat.zero_le _⟩ rfl (by decide) (ci := 4) 0 rfl rfl rfl rfl rfl (Nat.le_of_ble_eq_true rfl) dX5_longest_98 (fun _ => rfl) (fun zu3 zk3 => ?_)
          refine j_top (fcode 3) rfl ?_
          have ze : (sp_longest (nI k) S) = bad S 3 := by unfold sp_longest; rw [isP_eq hI, if_pos zc1, show pN (nI k) = k from hkc, if_pos zc2, he, show pN (nI kn) = kn from hckn, hF]; exact orB_t (v := -1) (by decide)
          exact fin zt _ _ _ _ dX5_longest_101 rfl (by rw [ze] <;> rfl) (by rw [ze] <;> rfl) trivial
        | succ d ih56 =>
          intro x zt hx hN hF
          subst hx
          refine j_iload_n 56 cx 0 dX5_longest_56 rfl ?_
          refine j_iconst 57 cx 1 dX5_longest_57 (by decide) ?_
          refine j_icmp_lt_F 58 cx 95 dX5_longest_58 (by decide) (nI_nlt (b := 1) (by omega) (by omega)) ?_
          refine j_aload_n 61 cx 3 dX5_longest_61 rfl ?_
          refine j_callV_q 62 cx 0 [0, 2, 3, 4, 5, 6, 7, 8, 9, 10, 11, 12, 13, 14, 15] [] (fun _ => wXO o ax (sP S) ++ ([((ax 7), .inl (gI G, 7, .inl (sF S)))] ++ (wN G (ax 1) qh (sN S) ++ wN G (ax 2) qt (sN S)))) (c_X5_rehearsal (kl K) G o ax (sP S) qh qt (sN S) zt) gX5_longest_X5_rehearsal rfl rfl rfl ⟨rfl, by decide, by decide, rfl⟩ ⟨Nat.le_of_ble_eq_true rfl, Nat.le_of_ble_eq_true rfl⟩ ⟨Nat.zero_le _, Nat.zero_le _⟩ rfl (by decide) (ci := 4) 0 rfl rfl rfl rfl rfl (Nat.le_of_ble_eq_true rfl) dX5_longest_62 (fun _ => rfl) (fun zu4 zk4 => ?_)
          refine j_st (st' := [.ref ((ax 2))]) rfl ?_
          refine j_astore 65 cx [(4, .ref ((ax 2))), (3, .int (nI (d + 1))), (2, .int (nI kn)), (1, .int (nI k)), (0, .ref o)] dX5_longest_65 (by decide) rfl ?_
          refine j_aload 67 cx 0 dX5_longest_67 rfl ?_
          refine j_get 69 cx 9 6 (T := TX1) (v := .ref (qt 3)) (fun _ h => List.mem_cons_of_mem _ (List.mem_append_right _ (h))) (List.mem_of_getElem? (i := 6) rfl) (ci := 0) rfl (by decide) rfl rfl rfl dX5_longest_69 ?_
          refine j_iload_n 72 cx 3 dX5_longest_72 rfl ?_
          refine j_iload_n 73 cx 1 dX5_longest_73 rfl ?_
          refine j_iast 74 cx 12 k (wXO o ax (sP S) ++ ([((ax 7), .inl (gI G, 7, .inl (sF S)))] ++ (wN G (ax 1) qh (sN S) ++ wN G (ax 2) qt (up2 (sN S) 3 k (nI (d + 1)))))) rfl rfl (by omega) (by decide) rfl dX5_longest_74 ?_
          refine j_aload 75 cx 0 dX5_longest_75 rfl ?_
          refine j_iload_n 77 cx 3 dX5_longest_77 rfl ?_
          refine j_iload_n 78 cx 2 dX5_longest_78 rfl ?_
          refine j_callV_i 79 cx 2 [9, 10, 11, 12, 13, 14, 15] [.int (nI k), .int (nI kn)] (fun zu5 => wXO o ax (sP S) ++ ([((ax 7), .inl (gI G, 7, .inl (sF S)))] ++ (wN G (ax 1) qh (sN S) ++ wN G (ax 2) qt zu5))) (c_X1_daysTillDone (kl K) G (ax 2) qt (up2 (sN S) 3 k (nI (d + 1))) (inv_upx hI 3 k (nI (d + 1)) (by omega)) k (by omega) kn (by omega) (by have h9 : dyN (up2 (sN S) 3 k (nI (d + 1))) ≤ 9999 := hD; omega)) gX5_longest_X1_daysTillDone rfl rfl rfl ⟨rfl, by decide, by decide, rfl⟩ ⟨Nat.le_of_ble_eq_true rfl, Nat.le_of_ble_eq_true rfl⟩ ⟨Nat.zero_le _, Nat.zero_le _⟩ rfl (by decide) (ci := 0) 0 rfl rfl rfl rfl rfl (Nat.le_of_ble_eq_true rfl) dX5_longest_79 (fun _ => rfl) (fun zu5 zk5 => ?_)
          refine j_top (tR kn (till (gDone k) kn (up2 (sN S) 3 k (nI (d + 1))))) rfl ?_
          refine j_ldc 82 cx (v := 100000) (List.mem_of_getElem? (i := 7) rfl) dX5_longest_82 ?_
          refine j_icmp_eq 84 cx 89 dX5_longest_84 (by decide) (fun zc3 => ?_) (fun zc3 => ?_)
          · skip
            refine j_iinc 89 cx [(3, .int (nI d)), (4, .ref ((ax 2))), (2, .int (nI kn)), (1, .int (nI k)), (0, .ref o)] 1 (nI d) dX5_longest_89 rfl (iincm d) (by decide) rfl ?_
            refine j_goto 92 cx 56 dX5_longest_92 (by decide) ?_
            refine j_lv [0, 2, 3, 4] rfl ?_
            exact ih56 d zu5 rfl (by omega) (hF.trans (fl_f (g := (longG (sN S) k kn)) (long_n (by omega) zc3)))
          · skip
            refine j_iload_n 87 cx 1 dX5_longest_87 rfl ?_
            have ze : (sp_longest (nI k) S) = (nI (d + 1), S) := by unfold sp_longest; rw [isP_eq hI, if_pos zc1, show pN (nI k) = k from hkc, if_pos zc2, he, show pN (nI kn) = kn from hckn, hF, fl_t (a := 1) (k := d) (g := (longG (sN S) k kn)) (long_y (by omega) zc3)]; exact orB_T (nI_pos' (by omega))
            exact fin zu5 _ _ _ _ dX5_longest_88 rfl (by rw [ze] <;> rfl) (by rw [ze] <;> rfl) trivial
      refine j_lv [0, 1, 3, 2] rfl ?_
      exact L56 99 99 τ rfl (by omega) rfl
    · skip
      refine j_aload_n 46 cx 1 dX5_longest_46 rfl ?_
      refine j_ldc 47 cx (v := -1000000005) (List.mem_of_getElem? (i := 5) rfl) dX5_longest_47 ?_
      refine j_callV_i 49 cx 1 [0, 1] [.int (fcode 4)] (fun _ => wXO o ax (sP S) ++ ([((ax 7), .inl (gI G, 7, .inl (upd (sF S) 4 ((sF S) 4 + 1))))] ++ (wN G (ax 1) qh (sN S) ++ wN G (ax 2) qt τ))) (c_X5_finding (kl K) G o ax (sP S) (sF S) 4 (by decide)) gX5_longest_X5_finding rfl rfl rfl ⟨rfl, by decide, by decide, rfl⟩ ⟨Nat.le_of_ble_eq_true rfl, Nat.le_of_ble_eq_true rfl⟩ ⟨Nat.zero_le _, Nat.zero_le _⟩ rfl (by decide) (ci := 4) 0 rfl rfl rfl rfl rfl (Nat.le_of_ble_eq_true rfl) dX5_longest_49 (fun _ => rfl) (fun zu7 zk6 => ?_)
      refine j_top (fcode 4) rfl ?_
      have ze : (sp_longest (nI k) S) = bad S 4 := by unfold sp_longest; simp [isP_eq hI, zc1, hkc, zc2]
      exact fin τ _ _ _ _ dX5_longest_52 rfl (by rw [ze] <;> rfl) (by rw [ze] <;> rfl) trivial
  · skip
    refine j_aload_n 8 cx 0 dX5_longest_8 rfl ?_
    refine j_ldc 9 cx (v := -1000000001) (List.mem_of_getElem? (i := 1) rfl) dX5_longest_9 ?_
    refine j_callV_i 11 cx 1 [0, 1] [.int (fcode 0)] (fun _ => wXO o ax (sP S) ++ ([((ax 7), .inl (gI G, 7, .inl (upd (sF S) 0 ((sF S) 0 + 1))))] ++ (wN G (ax 1) qh (sN S) ++ wN G (ax 2) qt τ))) (c_X5_finding (kl K) G o ax (sP S) (sF S) 0 (by decide)) gX5_longest_X5_finding rfl rfl rfl ⟨rfl, by decide, by decide, rfl⟩ ⟨Nat.le_of_ble_eq_true rfl, Nat.le_of_ble_eq_true rfl⟩ ⟨Nat.zero_le _, Nat.zero_le _⟩ rfl (by decide) (ci := 4) 0 rfl rfl rfl rfl rfl (Nat.le_of_ble_eq_true rfl) dX5_longest_11 (fun _ => rfl) (fun zu8 zk7 => ?_)
    refine j_top (fcode 0) rfl ?_
    have ze : (sp_longest p S) = bad S 0 := by unfold sp_longest; simp [isP_eq hI, zc1]
    exact fin τ _ _ _ _ dX5_longest_14 rfl (by rw [ze] <;> rfl) (by rw [ze] <;> rfl) trivial
set_option maxRecDepth 100000 in
set_option maxHeartbeats 4000000 in
theorem c_X5_due (l : Launch) (G : pG) (o : Nat) (ax : Nat → Nat) (qh qt qk : Nat → Nat) (S : St) (τ : Nu) (hI : Inv (sN S)) (hD : dyN (sN S) ≤ 9999) (p : Int32) : KI l G yX5_due wsX5_due ({ frames := 6, cells := 0, slots := 0, locals := 141 } : Room) [.ref o, .int p] (wXO o ax (sP S) ++ ([((ax 7), .inl (gI G, 7, .inl (sF S)))] ++ (wN G (ax 1) qh (sN S) ++ wN G (ax 2) qt τ))) (S := Nu) (fun _ => True) (fun u => (sp_due p S).1) (fun u => wXO o ax (sP S) ++ ([((ax 7), .inl (gI G, 7, .inl (sF (sp_due p S).2)))] ++ (wN G (ax 1) qh (sN (sp_due p S).2) ++ wN G (ax 2) qt u))) := by
  refine ki_of [(0, .ref o), (1, .int p)] (own := RX5) (cc := cX5_due) (nL := 8) (by decide +kernel) rfl rfl (Nat.le_of_ble_eq_true rfl) rfl (fun _ => rfl) (fun K cx fin => ?_)
  refine j_aload_n 0 cx 0 dX5_due_0 rfl ?_
  refine j_iload_n 1 cx 1 dX5_due_1 rfl ?_
  refine j_callV_i 2 cx 1 [0, 2, 3, 4, 5, 6, 7, 8] [.int p] (fun _ => wXO o ax (sP S) ++ ([((ax 7), .inl (gI G, 7, .inl (sF S)))] ++ (wN G (ax 1) qh (sN S) ++ wN G (ax 2) qt τ))) (c_X5_hasPart (kl K) G o ax (sP S) qh (sN S) p hI) gX5_due_X5_hasPart rfl rfl rfl ⟨rfl, by decide, by decide, rfl⟩ ⟨Nat.le_of_ble_eq_true rfl, Nat.le_of_ble_eq_true rfl⟩ ⟨Nat.zero_le _, Nat.zero_le _⟩ rfl (by decide) (ci := 4) 0 rfl rfl rfl rfl rfl (Nat.le_of_ble_eq_true rfl) dX5_due_2 (fun _ => rfl) (fun zu1 zk1 => ?_)
  refine j_top (bI (inI p 0 (nI (szN (sN S)) - 1))) rfl ?_
  refine j_ifB_ne 5 cx 15 dX5_due_5 (by decide) (fun zc1 => ?_) (fun zc1 => ?_)
  · skip
    obtain ⟨k, hk, rfl⟩ := in_n (by have := hI.sz8; omega) zc1
    have h8 := hI.sz8
    have hkc : (nI k).toNatClampNeg = k := nI_clamp (by omega)
    refine j_ldc 15 cx (v := 100000) (List.mem_of_getElem? (i := 2) rfl) dX5_due_15 ?_
    refine j_istore_n 17 cx [(2, .int 100000), (0, .ref o), (1, .int (nI k))] dX5_due_17 (by decide) rfl ?_
    refine j_iconst 18 cx (-1) dX5_due_18 (by decide) ?_
    refine j_istore_n 19 cx [(3, .int ((-1))), (2, .int 100000), (0, .ref o), (1, .int (nI k))] dX5_due_19 (by decide) rfl ?_
    refine j_aload_n 20 cx 2 dX5_due_20 rfl ?_
    refine j_get 21 cx 0 0 (T := TX5) (v := .ref ((ax 1))) (fun _ h => List.mem_cons_of_mem _ (List.mem_append_left _ (List.mem_append_right _ (h)))) (List.mem_of_getElem? (i := 3) rfl) (ci := 4) rfl (by decide) rfl rfl rfl dX5_due_21 ?_
    refine j_get 24 cx 2 0 (T := TX1) (v := .int ((sN S) 0 0)) (fun _ h => List.mem_cons_of_mem _ (List.mem_append_right _ (h))) (List.mem_of_getElem? (i := 4) rfl) (ci := 0) rfl (by decide) rfl rfl rfl dX5_due_24 ?_
    refine j_top (nI (dyN (sN S))) hI.dy ?_
    refine j_bipush 27 cx 60 dX5_due_27 (by decide) ?_
    refine j_iadd 29 cx dX5_due_29 ?_
    refine j_top (nI (dyN (sN S) + 60)) (nI_add _ _) ?_
    refine j_sipush 30 cx 9999 dX5_due_30 (by decide) ?_
    refine j_min 33 cx (List.mem_of_getElem? (i := 5) rfl) (List.mem_of_getElem? (i := 6) rfl) (List.mem_of_getElem? (i := 7) rfl) (List.mem_of_getElem? (i := 8) rfl) (by decide) (Nat.le_of_ble_eq_true rfl) (Nat.zero_le _) (Nat.zero_le _) dX5_due_33 ?_
    refine j_top (mnI (nI (dyN (sN S) + 60)) 9999) rfl ?_
    refine j_top (nI (dyN (sN S) + duN (dyN (sN S))) - 1) (due_end hD) ?_
    refine j_istore 36 cx [(4, .int (nI (dyN (sN S) + duN (dyN (sN S))) - 1)), (3, .int ((-1))), (2, .int 100000), (0, .ref o), (1, .int (nI k))] dX5_due_36 (by decide) rfl ?_
    refine j_iload 38 cx 0 dX5_due_38 rfl ?_
    refine j_istore 40 cx [(5, .int (nI (dyN (sN S) + duN (dyN (sN S))) - 1)), (4, .int (nI (dyN (sN S) + duN (dyN (sN S))) - 1)), (3, .int ((-1))), (2, .int 100000), (0, .ref o), (1, .int (nI k))] dX5_due_40 (by decide) rfl ?_
    have L42 : ∀ d : Nat, ∀ (x l : Nat) (b : Int32) (zt : Nu), (x = d) → (x ≤ (duN (dyN (sN S)))) → (BQ (dueT (sN S) k) (dyN (sN S)) x (duN (dyN (sN S))) l b) → JJ G K 0 0 (wXO o ax (sP S) ++ ([((ax 7), .inl (gI G, 7, .inl (sF S)))] ++ (wN G (ax 1) qh (sN S) ++ wN G (ax 2) qt zt))) [(5, .int (nI (dyN (sN S) + x) - 1)), (3, .int b), (2, .int (tR 200 l)), (1, .int (nI k)), (0, .ref o)] 42 [] := by
      intro d
      induction d with
      | zero =>
        intro x l b zt hx hN hB
        subst hx
        refine j_iload 42 cx 0 dX5_due_42 rfl ?_
        refine j_aload_n 44 cx 4 dX5_due_44 rfl ?_
        refine j_get 45 cx 0 0 (T := TX5) (v := .ref ((ax 1))) (fun _ h => List.mem_cons_of_mem _ (List.mem_append_left _ (List.mem_append_right _ (h)))) (List.mem_of_getElem? (i := 3) rfl) (ci := 4) rfl (by decide) rfl rfl rfl dX5_due_45 ?_
        refine j_get 48 cx 2 0 (T := TX1) (v := .int ((sN S) 0 0)) (fun _ h => List.mem_cons_of_mem _ (List.mem_append_right _ (h))) (List.mem_of_getElem? (i := 4) rfl) (ci := 0) rfl (by decide) rfl rfl rfl dX5_due_48 ?_
        refine j_top (nI (dyN (sN S))) hI.dy ?_
        refine j_icmp_lt_T 51 cx 98 dX5_due_51 (by decide) (m1_lt (by have := hD; omega)) ?_
        refine j_iload_n 98 cx 1 dX5_due_98 rfl ?_
        refine j_if_ge 99 cx 111 dX5_due_99 (by decide) (fun zc2 => ?_) (fun zc2 => ?_)
        · skip
          refine j_iload_n 111 cx 1 dX5_due_111 rfl ?_
          have ze : (sp_due (nI k) S) = (b, S) := by unfold sp_due; rw [isP_eq hI, if_pos zc1, show pN (nI k) = k from hkc, bq_eq (bq_bdu _ _ _) hB]; exact orB_T zc2
          exact fin zt _ _ _ _ dX5_due_112 rfl (by rw [ze] <;> rfl) (by rw [ze] <;> rfl) trivial
        · skip
          refine j_aload_n 102 cx 4 dX5_due_102 rfl ?_
          refine j_ldc 103 cx (v := -1000000004) (List.mem_of_getElem? (i := 10) rfl) dX5_due_103 ?_
          refine j_callV_i 105 cx 1 [0, 1] [.int (fcode 3)] (fun _ => wXO o ax (sP S) ++ ([((ax 7), .inl (gI G, 7, .inl (upd (sF S) 3 ((sF S) 3 + 1))))] ++ (wN G (ax 1) qh (sN S) ++ wN G (ax 2) qt zt))) (c_X5_finding (kl K) G o ax (sP S) (sF S) 3 (by decide)) gX5_due_X5_finding rfl rfl rfl ⟨rfl, by decide, by decide, rfl⟩ ⟨Nat.le_of_ble_eq_true rfl, Nat.le_of_ble_eq_true rfl⟩ ⟨Nat.zero_le _, Nat.zero_le _⟩ rfl (by decide) (ci := 4) 0 rfl rfl rfl rfl rfl (Nat.le_of_ble_eq_true rfl) dX5_due_105 (fun _ => rfl) (fun zu2 zk2 => ?_)
          refine j_top (fcode 3) rfl ?_
          refine j_goto 108 cx 112 dX5_due_108 (by decide) ?_
          have ze : (sp_due (nI k) S) = bad S 3 := by unfold sp_due; rw [isP_eq hI, if_pos zc1, show pN (nI k) = k from hkc, bq_eq (bq_bdu _ _ _) hB]; exact orB_F zc2
          exact fin zt _ _ _ _ dX5_due_112 rfl (by rw [ze] <;> rfl) (by rw [ze] <;> rfl) trivial
      | succ d ih42 =>
        intro x l b zt hx hN hB
        subst hx
        have h61 : duN (dyN (sN S)) ≤ 61 := Nat.min_le_left _ _
        rw [show nI (dyN (sN S) + (d + 1)) - 1 = nI (dyN (sN S) + d) from nI_s1 _]
        refine j_iload 42 cx 0 dX5_due_42 rfl ?_
        refine j_aload_n 44 cx 4 dX5_due_44 rfl ?_
        refine j_get 45 cx 0 0 (T := TX5) (v := .ref ((ax 1))) (fun _ h => List.mem_cons_of_mem _ (List.mem_append_left _ (List.mem_append_right _ (h)))) (List.mem_of_getElem? (i := 3) rfl) (ci := 4) rfl (by decide) rfl rfl rfl dX5_due_45 ?_
        refine j_get 48 cx 2 0 (T := TX1) (v := .int ((sN S) 0 0)) (fun _ h => List.mem_cons_of_mem _ (List.mem_append_right _ (h))) (List.mem_of_getElem? (i := 4) rfl) (ci := 0) rfl (by decide) rfl rfl rfl dX5_due_48 ?_
        refine j_top (nI (dyN (sN S))) hI.dy ?_
        refine j_icmp_lt_F 51 cx 98 dX5_due_51 (by decide) (nI_nlt (by omega) (by omega)) ?_
        refine j_aload_n 54 cx 4 dX5_due_54 rfl ?_
        refine j_callV_q 55 cx 0 [0, 2, 3, 4, 5, 6, 7, 8, 9, 10, 11, 12, 13, 14, 15] [] (fun _ => wXO o ax (sP S) ++ ([((ax 7), .inl (gI G, 7, .inl (sF S)))] ++ (wN G (ax 1) qh (sN S) ++ wN G (ax 2) qt (sN S)))) (c_X5_rehearsal (kl K) G o ax (sP S) qh qt (sN S) zt) gX5_due_X5_rehearsal rfl rfl rfl ⟨rfl, by decide, by decide, rfl⟩ ⟨Nat.le_of_ble_eq_true rfl, Nat.le_of_ble_eq_true rfl⟩ ⟨Nat.zero_le _, Nat.zero_le _⟩ rfl (by decide) (ci := 4) 0 rfl rfl rfl rfl rfl (Nat.le_of_ble_eq_true rfl) dX5_due_55 (fun _ => rfl) (fun zu3 zk3 => ?_)
        refine j_st (st' := [.ref ((ax 2))]) rfl ?_
        refine j_astore 58 cx [(6, .ref ((ax 2))), (5, .int (nI (dyN (sN S) + d))), (3, .int b), (2, .int (tR 200 l)), (1, .int (nI k)), (0, .ref o)] dX5_due_58 (by decide) rfl ?_
        refine j_aload 60 cx 0 dX5_due_60 rfl ?_
        refine j_get 62 cx 9 8 (T := TX1) (v := .ref (qt 5)) (fun _ h => List.mem_cons_of_mem _ (List.mem_append_right _ (h))) (List.mem_of_getElem? (i := 9) rfl) (ci := 0) rfl (by decide) rfl rfl rfl dX5_due_62 ?_
        refine j_iload_n 65 cx 4 dX5_due_65 rfl ?_
        refine j_iload 66 cx 1 dX5_due_66 rfl ?_
        refine j_iast 68 cx 14 k (wXO o ax (sP S) ++ ([((ax 7), .inl (gI G, 7, .inl (sF S)))] ++ (wN G (ax 1) qh (sN S) ++ wN G (ax 2) qt (up2 (sN S) 5 k (nI (dyN (sN S) + d)))))) rfl rfl (by omega) (by decide) rfl dX5_due_68 ?_
        refine j_aload 69 cx 0 dX5_due_69 rfl ?_
        refine j_iload_n 71 cx 4 dX5_due_71 rfl ?_
        refine j_sipush 72 cx 200 dX5_due_72 (by decide) ?_
        refine j_callV_i 75 cx 2 [9, 10, 11, 12, 13, 14, 15] [.int (nI k), .int 200] (fun zu4 => wXO o ax (sP S) ++ ([((ax 7), .inl (gI G, 7, .inl (sF S)))] ++ (wN G (ax 1) qh (sN S) ++ wN G (ax 2) qt zu4))) (c_X1_daysTillDone (kl K) G (ax 2) qt (up2 (sN S) 5 k (nI (dyN (sN S) + d))) (inv_upx hI 5 k (nI (dyN (sN S) + d)) (by omega)) k (by omega) 200 (by omega) (by have h9 : dyN (up2 (sN S) 5 k (nI (dyN (sN S) + d))) ≤ 9999 := hD; omega)) gX5_due_X1_daysTillDone rfl rfl rfl ⟨rfl, by decide, by decide, rfl⟩ ⟨Nat.le_of_ble_eq_true rfl, Nat.le_of_ble_eq_true rfl⟩ ⟨Nat.zero_le _, Nat.zero_le _⟩ rfl (by decide) (ci := 0) 0 rfl rfl rfl rfl rfl (Nat.le_of_ble_eq_true rfl) dX5_due_75 (fun _ => rfl) (fun zu4 zk4 => ?_)
        refine j_top (tR 200 (till (gDone k) 200 (up2 (sN S) 5 k (nI (dyN (sN S) + d))))) rfl ?_
        refine j_istore 78 cx [(7, .int (tR 200 (till (gDone k) 200 (up2 (sN S) 5 k (nI (dyN (sN S) + d)))))), (6, .ref ((ax 2))), (5, .int (nI (dyN (sN S) + d))), (3, .int b), (2, .int (tR 200 l)), (1, .int (nI k)), (0, .ref o)] dX5_due_78 (by decide) rfl ?_
        refine j_iload 80 cx 0 dX5_due_80 rfl ?_
        refine j_iload_n 82 cx 4 dX5_due_82 rfl ?_
        refine j_icmp_ge 83 cx 92 dX5_due_83 (by decide) (fun zc3 => ?_) (fun zc3 => ?_)
        · skip
          refine j_iinc 92 cx [(5, .int (nI (dyN (sN S) + d) - 1)), (7, .int (tR 200 (till (gDone k) 200 (up2 (sN S) 5 k (nI (dyN (sN S) + d)))))), (6, .ref ((ax 2))), (3, .int b), (2, .int (tR 200 l)), (1, .int (nI k)), (0, .ref o)] 2 (nI (dyN (sN S) + d) - 1) dX5_due_92 rfl (i_m1 _) (by decide) rfl ?_
          refine j_goto 95 cx 42 dX5_due_95 (by decide) ?_
          refine j_lv [0, 3, 4, 5, 6] rfl ?_
          exact ih42 d l b zu4 rfl (by omega) (bq_dfX (dueT_le _ _) hB zc3)
        · skip
          refine j_iload 86 cx 0 dX5_due_86 rfl ?_
          refine j_istore_n 88 cx [(2, .int (tR 200 (till (gDone k) 200 (up2 (sN S) 5 k (nI (dyN (sN S) + d)))))), (7, .int (tR 200 (till (gDone k) 200 (up2 (sN S) 5 k (nI (dyN (sN S) + d)))))), (6, .ref ((ax 2))), (5, .int (nI (dyN (sN S) + d))), (3, .int b), (1, .int (nI k)), (0, .ref o)] dX5_due_88 (by decide) rfl ?_
          refine j_iload 89 cx 3 dX5_due_89 rfl ?_
          refine j_istore_n 91 cx [(3, .int (nI (dyN (sN S) + d))), (2, .int (tR 200 (till (gDone k) 200 (up2 (sN S) 5 k (nI (dyN (sN S) + d)))))), (7, .int (tR 200 (till (gDone k) 200 (up2 (sN S) 5 k (nI (dyN (sN S) + d)))))), (6, .ref ((ax 2))), (5, .int (nI (dyN (sN S) + d))), (1, .int (nI k)), (0, .ref o)] dX5_due_91 (by decide) rfl ?_
          refine j_iinc 92 cx [(5, .int (nI (dyN (sN S) + d) - 1)), (3, .int (nI (dyN (sN S) + d))), (2, .int (tR 200 (till (gDone k) 200 (up2 (sN S) 5 k (nI (dyN (sN S) + d)))))), (7, .int (tR 200 (till (gDone k) 200 (up2 (sN S) 5 k (nI (dyN (sN S) + d)))))), (6, .ref ((ax 2))), (1, .int (nI k)), (0, .ref o)] 4 (nI (dyN (sN S) + d) - 1) dX5_due_92 rfl (i_m1 _) (by decide) rfl ?_
          refine j_goto 95 cx 42 dX5_due_95 (by decide) ?_
          refine j_lv [0, 1, 2, 5, 6] rfl ?_
          exact ih42 d (dueT (sN S) k d) (nI (dyN (sN S) + d)) zu4 rfl (by omega) (bq_dtX (dueT_le _ _) hB (by omega) zc3)
    refine j_lv [0, 2, 3, 5, 4] rfl ?_
    exact L42 (duN (dyN (sN S))) (duN (dyN (sN S))) 201 (-1) τ rfl (Nat.le_refl _) (bq_start _ _ _)
  · skip
    refine j_aload_n 8 cx 0 dX5_due_8 rfl ?_
    refine j_ldc 9 cx (v := -1000000001) (List.mem_of_getElem? (i := 1) rfl) dX5_due_9 ?_
    refine j_callV_i 11 cx 1 [0, 1] [.int (fcode 0)] (fun _ => wXO o ax (sP S) ++ ([((ax 7), .inl (gI G, 7, .inl (upd (sF S) 0 ((sF S) 0 + 1))))] ++ (wN G (ax 1) qh (sN S) ++ wN G (ax 2) qt τ))) (c_X5_finding (kl K) G o ax (sP S) (sF S) 0 (by decide)) gX5_due_X5_finding rfl rfl rfl ⟨rfl, by decide, by decide, rfl⟩ ⟨Nat.le_of_ble_eq_true rfl, Nat.le_of_ble_eq_true rfl⟩ ⟨Nat.zero_le _, Nat.zero_le _⟩ rfl (by decide) (ci := 4) 0 rfl rfl rfl rfl rfl (Nat.le_of_ble_eq_true rfl) dX5_due_11 (fun _ => rfl) (fun zu6 zk5 => ?_)
    refine j_top (fcode 0) rfl ?_
    have ze : (sp_due p S) = bad S 0 := by unfold sp_due; simp [isP_eq hI, zc1]
    exact fin τ _ _ _ _ dX5_due_14 rfl (by rw [ze] <;> rfl) (by rw [ze] <;> rfl) trivial
