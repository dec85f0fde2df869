set_option maxRecDepth 100000 in
set_option maxHeartbeats 4000000 in
theorem c_X6_notCopied_t (l : Launch) (G : pG) (o : Nat) (am : Nat → Nat) (ik : Bool) (la tn tk be an va : Int32) (bd : Bool) (bf : Nat → Int32) (zf : Nat → Nat) (k : Nat) (hk : k < 4) (k2 : Nat) (hk2 : k2 < 4) (a b n : Int32) : KI l G yX6_notCopied wsX6_notCopied ({ frames := 2, cells := 0, slots := 0, locals := 43 } : Room) [.ref o, .int (nI k), .int a, .int (nI k2), .int b, .int n] (wMO o am ik la tn tk be an va bd ++ ([((am 5), .inl (gI G, 4, .inl bf))] ++ [((am 6), .inl (gI G, 4, .inl (zN zf)))])) (S := Unit) (fun _ => True) (fun u => ncF (bf k) (bf k2) (zf k) (zf k2) a b n) (fun u => wMO o am ik la tn tk be an va bd ++ ([((am 5), .inl (gI G, 4, .inl bf))] ++ [((am 6), .inl (gI G, 4, .inl (zN zf)))])) := by
  refine ki_of [(0, .ref o), (1, .int (nI k)), (2, .int a), (3, .int (nI k2)), (4, .int b), (5, .int n)] (own := RX6) (cc := cX6_notCopied) (nL := 7) (by decide +kernel) rfl rfl (Nat.le_of_ble_eq_true rfl) rfl (fun _ => rfl) (fun K cx fin => ?_)
  refine j_iload_n 0 cx 1 dX6_notCopied_0 rfl ?_
  refine j_callS_i 1 cx 1 [] [.int (nI k)] (fun _ => wMO o am ik la tn tk be an va bd ++ ([((am 5), .inl (gI G, 4, .inl bf))] ++ [((am 6), .inl (gI G, 4, .inl (zN zf)))])) (c_X6_isSheet (kl K) G (nI k)) gX6_notCopied_X6_isSheet rfl rfl rfl ⟨by decide, by decide, rfl⟩ ⟨Nat.le_of_ble_eq_true rfl, Nat.le_of_ble_eq_true rfl⟩ ⟨Nat.zero_le _, Nat.zero_le _⟩ rfl (by decide) rfl rfl (Nat.le_of_ble_eq_true rfl) dX6_notCopied_1 (fun _ => rfl) (fun zu1 zk1 => ?_)
  refine j_top (bI (inI (nI k) 0 3)) rfl ?_
  refine j_if_eq_F 4 cx 14 dX6_notCopied_4 (by decide) (by rw [s_in hk]; decide) ?_
  refine j_iload_n 7 cx 3 dX6_notCopied_7 rfl ?_
  refine j_callS_i 8 cx 1 [] [.int (nI k2)] (fun _ => wMO o am ik la tn tk be an va bd ++ ([((am 5), .inl (gI G, 4, .inl bf))] ++ [((am 6), .inl (gI G, 4, .inl (zN zf)))])) (c_X6_isSheet (kl K) G (nI k2)) gX6_notCopied_X6_isSheet rfl rfl rfl ⟨by decide, by decide, rfl⟩ ⟨Nat.le_of_ble_eq_true rfl, Nat.le_of_ble_eq_true rfl⟩ ⟨Nat.zero_le _, Nat.zero_le _⟩ rfl (by decide) rfl rfl (Nat.le_of_ble_eq_true rfl) dX6_notCopied_8 (fun _ => rfl) (fun zu2 zk2 => ?_)
  refine j_top (bI (inI (nI k2) 0 3)) rfl ?_
  refine j_if_ne_T 11 cx 17 dX6_notCopied_11 (by decide) (by rw [s_in hk2]; decide) ?_
  refine j_aload_n 17 cx 0 dX6_notCopied_17 rfl ?_
  refine j_get 18 cx 0 13 (T := TX6) (v := .ref ((am 5))) (fun _ h => List.mem_cons_of_mem _ (List.mem_append_right _ (h))) (List.mem_of_getElem? (i := 2) rfl) (ci := 5) rfl (by decide) rfl rfl rfl dX6_notCopied_18 ?_
  refine j_iload_n 21 cx 1 dX6_notCopied_21 rfl ?_
  refine j_iald 22 cx 1 k rfl rfl (by omega) (by decide) dX6_notCopied_22 ?_
  refine j_if_eq 23 cx 35 dX6_notCopied_23 (by decide) (fun zc1 => ?_) (fun zc1 => ?_)
  · skip
    refine j_ldc 35 cx (v := -1000000006) (List.mem_of_getElem? (i := 3) rfl) dX6_notCopied_35 ?_
    exact fin () _ _ _ _ dX6_notCopied_37 rfl (by unfold ncF; simp [zc1]) rfl trivial
  · skip
    refine j_aload_n 26 cx 0 dX6_notCopied_26 rfl ?_
    refine j_get 27 cx 0 13 (T := TX6) (v := .ref ((am 5))) (fun _ h => List.mem_cons_of_mem _ (List.mem_append_right _ (h))) (List.mem_of_getElem? (i := 2) rfl) (ci := 5) rfl (by decide) rfl rfl rfl dX6_notCopied_27 ?_
    refine j_iload_n 30 cx 3 dX6_notCopied_30 rfl ?_
    refine j_iald 31 cx 1 k2 rfl rfl (by omega) (by decide) dX6_notCopied_31 ?_
    refine j_if_ne 32 cx 38 dX6_notCopied_32 (by decide) (fun zc2 => ?_) (fun zc2 => ?_)
    · skip
      refine j_aload_n 38 cx 0 dX6_notCopied_38 rfl ?_
      refine j_get 39 cx 0 13 (T := TX6) (v := .ref ((am 5))) (fun _ h => List.mem_cons_of_mem _ (List.mem_append_right _ (h))) (List.mem_of_getElem? (i := 2) rfl) (ci := 5) rfl (by decide) rfl rfl rfl dX6_notCopied_39 ?_
      refine j_iload_n 42 cx 1 dX6_notCopied_42 rfl ?_
      refine j_iald 43 cx 1 k rfl rfl (by omega) (by decide) dX6_notCopied_43 ?_
      refine j_aload_n 44 cx 0 dX6_notCopied_44 rfl ?_
      refine j_get 45 cx 0 13 (T := TX6) (v := .ref ((am 5))) (fun _ h => List.mem_cons_of_mem _ (List.mem_append_right _ (h))) (List.mem_of_getElem? (i := 2) rfl) (ci := 5) rfl (by decide) rfl rfl rfl dX6_notCopied_45 ?_
      refine j_iload_n 48 cx 3 dX6_notCopied_48 rfl ?_
      refine j_iald 49 cx 1 k2 rfl rfl (by omega) (by decide) dX6_notCopied_49 ?_
      refine j_icmp_eq 50 cx 56 dX6_notCopied_50 (by decide) (fun zc3 => ?_) (fun zc3 => ?_)
      · skip
        refine j_iload 56 cx 5 dX6_notCopied_56 rfl ?_
        refine j_if_lt 58 cx 101 dX6_notCopied_58 (by decide) (fun zc4 => ?_) (fun zc4 => ?_)
        · skip
          refine j_iconst 101 cx 0 dX6_notCopied_101 (by decide) ?_
          refine j_istore 102 cx [(6, .int 0), (0, .ref o), (1, .int (nI k)), (2, .int a), (3, .int (nI k2)), (4, .int b), (5, .int n)] dX6_notCopied_102 (by decide) rfl ?_
          refine j_iload 104 cx 0 dX6_notCopied_104 rfl ?_
          refine j_if_eq_T 106 cx 113 dX6_notCopied_106 (by decide) (by decide) ?_
          refine j_ldc 113 cx (v := -1000000001) (List.mem_of_getElem? (i := 1) rfl) dX6_notCopied_113 ?_
          exact fin () _ _ _ _ dX6_notCopied_115 rfl (by unfold ncF; simp [zc1, zc2, zc3, zc4]) rfl trivial
        · skip
          refine j_iload_n 61 cx 2 dX6_notCopied_61 rfl ?_
          refine j_if_lt 62 cx 101 dX6_notCopied_62 (by decide) (fun zc5 => ?_) (fun zc5 => ?_)
          · skip
            refine j_iconst 101 cx 0 dX6_notCopied_101 (by decide) ?_
            refine j_istore 102 cx [(6, .int 0), (0, .ref o), (1, .int (nI k)), (2, .int a), (3, .int (nI k2)), (4, .int b), (5, .int n)] dX6_notCopied_102 (by decide) rfl ?_
            refine j_iload 104 cx 0 dX6_notCopied_104 rfl ?_
            refine j_if_eq_T 106 cx 113 dX6_notCopied_106 (by decide) (by decide) ?_
            refine j_ldc 113 cx (v := -1000000001) (List.mem_of_getElem? (i := 1) rfl) dX6_notCopied_113 ?_
            exact fin () _ _ _ _ dX6_notCopied_115 rfl (by unfold ncF; simp [zc1, zc2, zc3, zc4, zc5]) rfl trivial
          · skip
            refine j_iload 65 cx 4 dX6_notCopied_65 rfl ?_
            refine j_if_lt 67 cx 101 dX6_notCopied_67 (by decide) (fun zc6 => ?_) (fun zc6 => ?_)
            · skip
              refine j_iconst 101 cx 0 dX6_notCopied_101 (by decide) ?_
              refine j_istore 102 cx [(6, .int 0), (0, .ref o), (1, .int (nI k)), (2, .int a), (3, .int (nI k2)), (4, .int b), (5, .int n)] dX6_notCopied_102 (by decide) rfl ?_
              refine j_iload 104 cx 0 dX6_notCopied_104 rfl ?_
              refine j_if_eq_T 106 cx 113 dX6_notCopied_106 (by decide) (by decide) ?_
              refine j_ldc 113 cx (v := -1000000001) (List.mem_of_getElem? (i := 1) rfl) dX6_notCopied_113 ?_
              exact fin () _ _ _ _ dX6_notCopied_115 rfl (by unfold ncF; simp [zc1, zc2, zc3, zc4, zc5, zc6]) rfl trivial
            · skip
              refine j_iload 70 cx 5 dX6_notCopied_70 rfl ?_
              refine j_aload_n 72 cx 0 dX6_notCopied_72 rfl ?_
              refine j_get 73 cx 0 14 (T := TX6) (v := .ref ((am 6))) (fun _ h => List.mem_cons_of_mem _ (List.mem_append_right _ (h))) (List.mem_of_getElem? (i := 5) rfl) (ci := 5) rfl (by decide) rfl rfl rfl dX6_notCopied_73 ?_
              refine j_iload_n 76 cx 1 dX6_notCopied_76 rfl ?_
              refine j_iald 77 cx 2 k rfl rfl (by omega) (by decide) dX6_notCopied_77 ?_
              refine j_top (nI (zf k)) rfl ?_
              refine j_iload_n 78 cx 2 dX6_notCopied_78 rfl ?_
              refine j_isub 79 cx dX6_notCopied_79 ?_
              refine j_icmp_gt 80 cx 101 dX6_notCopied_80 (by decide) (fun zc7 => ?_) (fun zc7 => ?_)
              · skip
                refine j_iconst 101 cx 0 dX6_notCopied_101 (by decide) ?_
                refine j_istore 102 cx [(6, .int 0), (0, .ref o), (1, .int (nI k)), (2, .int a), (3, .int (nI k2)), (4, .int b), (5, .int n)] dX6_notCopied_102 (by decide) rfl ?_
                refine j_iload 104 cx 0 dX6_notCopied_104 rfl ?_
                refine j_if_eq_T 106 cx 113 dX6_notCopied_106 (by decide) (by decide) ?_
                refine j_ldc 113 cx (v := -1000000001) (List.mem_of_getElem? (i := 1) rfl) dX6_notCopied_113 ?_
                exact fin () _ _ _ _ dX6_notCopied_115 rfl (by unfold ncF; simp [zc1, zc2, zc3, zc4, zc5, zc6, zc7]) rfl trivial
              · skip
                refine j_iload 83 cx 5 dX6_notCopied_83 rfl ?_
                refine j_aload_n 85 cx 0 dX6_notCopied_85 rfl ?_
                refine j_get 86 cx 0 14 (T := TX6) (v := .ref ((am 6))) (fun _ h => List.mem_cons_of_mem _ (List.mem_append_right _ (h))) (List.mem_of_getElem? (i := 5) rfl) (ci := 5) rfl (by decide) rfl rfl rfl dX6_notCopied_86 ?_
                refine j_iload_n 89 cx 3 dX6_notCopied_89 rfl ?_
                refine j_iald 90 cx 2 k2 rfl rfl (by omega) (by decide) dX6_notCopied_90 ?_
                refine j_top (nI (zf k2)) rfl ?_
                refine j_iload 91 cx 4 dX6_notCopied_91 rfl ?_
                refine j_isub 93 cx dX6_notCopied_93 ?_
                refine j_icmp_gt 94 cx 101 dX6_notCopied_94 (by decide) (fun zc8 => ?_) (fun zc8 => ?_)
                · skip
                  refine j_iconst 101 cx 0 dX6_notCopied_101 (by decide) ?_
                  refine j_istore 102 cx [(6, .int 0), (0, .ref o), (1, .int (nI k)), (2, .int a), (3, .int (nI k2)), (4, .int b), (5, .int n)] dX6_notCopied_102 (by decide) rfl ?_
                  refine j_iload 104 cx 0 dX6_notCopied_104 rfl ?_
                  refine j_if_eq_T 106 cx 113 dX6_notCopied_106 (by decide) (by decide) ?_
                  refine j_ldc 113 cx (v := -1000000001) (List.mem_of_getElem? (i := 1) rfl) dX6_notCopied_113 ?_
                  exact fin () _ _ _ _ dX6_notCopied_115 rfl (by unfold ncF; simp [zc1, zc2, zc3, zc4, zc5, zc6, zc7, zc8]) rfl trivial
                · skip
                  refine j_iconst 97 cx 1 dX6_notCopied_97 (by decide) ?_
                  refine j_goto 98 cx 102 dX6_notCopied_98 (by decide) ?_
                  refine j_istore 102 cx [(6, .int 1), (0, .ref o), (1, .int (nI k)), (2, .int a), (3, .int (nI k2)), (4, .int b), (5, .int n)] dX6_notCopied_102 (by decide) rfl ?_
                  refine j_iload 104 cx 0 dX6_notCopied_104 rfl ?_
                  refine j_if_eq_F 106 cx 113 dX6_notCopied_106 (by decide) (by decide) ?_
                  refine j_iconst 109 cx 0 dX6_notCopied_109 (by decide) ?_
                  refine j_goto 110 cx 115 dX6_notCopied_110 (by decide) ?_
                  exact fin () _ _ _ _ dX6_notCopied_115 rfl (by unfold ncF; simp [zc1, zc2, zc3, zc4, zc5, zc6, zc7, zc8]) rfl trivial
      · skip
        refine j_ldc 53 cx (v := -1000000003) (List.mem_of_getElem? (i := 4) rfl) dX6_notCopied_53 ?_
        exact fin () _ _ _ _ dX6_notCopied_55 rfl (by unfold ncF; simp [zc1, zc2, zc3]) rfl trivial
    · skip
      refine j_ldc 35 cx (v := -1000000006) (List.mem_of_getElem? (i := 3) rfl) dX6_notCopied_35 ?_
      exact fin () _ _ _ _ dX6_notCopied_37 rfl (by unfold ncF; simp [zc1, zc2]) rfl trivial
set_option maxRecDepth 100000 in
set_option maxHeartbeats 4000000 in
theorem c_X6_notCopied_f (l : Launch) (G : pG) (o : Nat) (am : Nat → Nat) (ik : Bool) (la tn tk be an va : Int32) (bd : Bool) (bf : Nat → Int32) (zf : Nat → Nat) (s t : Int32) (hv : ¬ (inI s 0 3 = true ∧ inI t 0 3 = true)) (a b n : Int32) : KI l G yX6_notCopied wsX6_notCopied ({ frames := 2, cells := 0, slots := 0, locals := 43 } : Room) [.ref o, .int s, .int a, .int t, .int b, .int n] (wMO o am ik la tn tk be an va bd ++ ([((am 5), .inl (gI G, 4, .inl bf))] ++ [((am 6), .inl (gI G, 4, .inl (zN zf)))])) (S := Unit) (fun _ => True) (fun u => -1000000001) (fun u => wMO o am ik la tn tk be an va bd ++ ([((am 5), .inl (gI G, 4, .inl bf))] ++ [((am 6), .inl (gI G, 4, .inl (zN zf)))])) := by
  refine ki_of [(0, .ref o), (1, .int s), (2, .int a), (3, .int t), (4, .int b), (5, .int n)] (own := RX6) (cc := cX6_notCopied) (nL := 7) (by decide +kernel) rfl rfl (Nat.le_of_ble_eq_true rfl) rfl (fun _ => rfl) (fun K cx fin => ?_)
  refine j_iload_n 0 cx 1 dX6_notCopied_0 rfl ?_
  refine j_callS_i 1 cx 1 [] [.int s] (fun _ => wMO o am ik la tn tk be an va bd ++ ([((am 5), .inl (gI G, 4, .inl bf))] ++ [((am 6), .inl (gI G, 4, .inl (zN zf)))])) (c_X6_isSheet (kl K) G s) gX6_notCopied_X6_isSheet rfl rfl rfl ⟨by decide, by decide, rfl⟩ ⟨Nat.le_of_ble_eq_true rfl, Nat.le_of_ble_eq_true rfl⟩ ⟨Nat.zero_le _, Nat.zero_le _⟩ rfl (by decide) rfl rfl (Nat.le_of_ble_eq_true rfl) dX6_notCopied_1 (fun _ => rfl) (fun zu1 zk1 => ?_)
  refine j_top (bI (inI s 0 3)) rfl ?_
  refine j_ifB_eq 4 cx 14 dX6_notCopied_4 (by decide) (fun zc1 => ?_) (fun zc1 => ?_)
  · skip
    refine j_ldc 14 cx (v := -1000000001) (List.mem_of_getElem? (i := 1) rfl) dX6_notCopied_14 ?_
    exact fin () _ _ _ _ dX6_notCopied_16 rfl rfl rfl trivial
  · skip
    refine j_iload_n 7 cx 3 dX6_notCopied_7 rfl ?_
    refine j_callS_i 8 cx 1 [] [.int t] (fun _ => wMO o am ik la tn tk be an va bd ++ ([((am 5), .inl (gI G, 4, .inl bf))] ++ [((am 6), .inl (gI G, 4, .inl (zN zf)))])) (c_X6_isSheet (kl K) G t) gX6_notCopied_X6_isSheet rfl rfl rfl ⟨by decide, by decide, rfl⟩ ⟨Nat.le_of_ble_eq_true rfl, Nat.le_of_ble_eq_true rfl⟩ ⟨Nat.zero_le _, Nat.zero_le _⟩ rfl (by decide) rfl rfl (Nat.le_of_ble_eq_true rfl) dX6_notCopied_8 (fun _ => rfl) (fun zu2 zk2 => ?_)
    refine j_top (bI (inI t 0 3)) rfl ?_
    refine j_if_ne_F 11 cx 17 dX6_notCopied_11 (by decide) (by rw [show inI t 0 3 = false from Bool.eq_false_iff.mpr (fun q => hv ⟨zc1, q⟩)]; rfl) ?_
    refine j_ldc 14 cx (v := -1000000001) (List.mem_of_getElem? (i := 1) rfl) dX6_notCopied_14 ?_
    exact fin () _ _ _ _ dX6_notCopied_16 rfl rfl rfl trivial
set_option maxRecDepth 100000 in
set_option maxHeartbeats 4000000 in
theorem c_X6_copy_t (l : Launch) (G : pG) (o : Nat) (am : Nat → Nat) (S : St) (la tk be an va : Int32) (bd : Bool) (k : Nat) (hk : k < 4) (k2 : Nat) (hk2 : k2 < 4) (hz : sZ S k ≤ 40) (hz2 : sZ S k2 ≤ 40) (a b n : Int32) : KI l G yX6_copy wsX6_copy ({ frames := 3, cells := 0, slots := 0, locals := 69 } : Room) [.ref o, .int (nI k), .int a, .int (nI k2), .int b, .int n] (wMO o am (sP S) la (nI (sL S)) tk be an va bd ++ ([((am 3), .inl (gI G, 7, .inl (sF S)))] ++ ([((am 5), .inl (gI G, 4, .inl (sB S)))] ++ ([((am 6), .inl (gI G, 4, .inl (zN (sZ S))))] ++ [((am 7), .inl (gJ G, 160, .inr (.inl (cm (sC S)))))])))) (S := Unit) (fun _ => True) (fun u => (sp_copy (nI k) a (nI k2) b n S).1) (fun u => wMO o am (sP S) la (nI (sL S)) tk be an va bd ++ ([((am 3), .inl (gI G, 7, .inl (sF (sp_copy (nI k) a (nI k2) b n S).2)))] ++ ([((am 5), .inl (gI G, 4, .inl (sB (sp_copy (nI k) a (nI k2) b n S).2)))] ++ ([((am 6), .inl (gI G, 4, .inl (zN (sZ (sp_copy (nI k) a (nI k2) b n S).2))))] ++ [((am 7), .inl (gJ G, 160, .inr (.inl (cm (sC (sp_copy (nI k) a (nI k2) b n S).2)))))])))) := by
  refine ki_of [(0, .ref o), (1, .int (nI k)), (2, .int a), (3, .int (nI k2)), (4, .int b), (5, .int n)] (own := RX6) (cc := cX6_copy) (nL := 9) (by decide +kernel) rfl rfl (Nat.le_of_ble_eq_true rfl) rfl (fun _ => rfl) (fun K cx fin => ?_)
  rcases bcase (decide (sB S k = 0 ∨ sB S k2 = 0)) with zc1 | zc1
  · skip
    refine j_aload_n 0 cx 0 dX6_copy_0 rfl ?_
    refine j_iload_n 1 cx 1 dX6_copy_1 rfl ?_
    refine j_iload_n 2 cx 2 dX6_copy_2 rfl ?_
    refine j_iload_n 3 cx 3 dX6_copy_3 rfl ?_
    refine j_iload 4 cx 4 dX6_copy_4 rfl ?_
    refine j_iload 6 cx 5 dX6_copy_6 rfl ?_
    refine j_callV_i 8 cx 5 [0, 2, 3] [.int (nI k), .int a, .int (nI k2), .int b, .int n] (fun _ => wMO o am (sP S) la (nI (sL S)) tk be an va bd ++ ([((am 3), .inl (gI G, 7, .inl (sF S)))] ++ ([((am 5), .inl (gI G, 4, .inl (sB S)))] ++ ([((am 6), .inl (gI G, 4, .inl (zN (sZ S))))] ++ [((am 7), .inl (gJ G, 160, .inr (.inl (cm (sC S)))))])))) (c_X6_notCopied_t (kl K) G o am (sP S) la (nI (sL S)) tk be an va bd (sB S) (sZ S) k hk k2 hk2 a b n) gX6_copy_X6_notCopied rfl rfl rfl ⟨rfl, by decide, by decide, rfl⟩ ⟨Nat.le_of_ble_eq_true rfl, Nat.le_of_ble_eq_true rfl⟩ ⟨Nat.zero_le _, Nat.zero_le _⟩ rfl (by decide) (ci := 5) 0 rfl rfl rfl rfl rfl (Nat.le_of_ble_eq_true rfl) dX6_copy_8 (fun _ => rfl) (fun zu1 zk1 => ?_)
    refine j_top (ncF ((sB S) k) ((sB S) k2) ((sZ S) k) ((sZ S) k2) a b n) rfl ?_
    refine j_top ((-1000000006)) (nc_5 zc1) ?_
    refine j_istore 11 cx [(6, .int ((-1000000006))), (0, .ref o), (1, .int (nI k)), (2, .int a), (3, .int (nI k2)), (4, .int b), (5, .int n)] dX6_copy_11 (by decide) rfl ?_
    refine j_iload 13 cx 0 dX6_copy_13 rfl ?_
    refine j_if_eq_F 15 cx 25 dX6_copy_15 (by decide) (by decide) ?_
    refine j_aload_n 18 cx 1 dX6_copy_18 rfl ?_
    refine j_iload 19 cx 0 dX6_copy_19 rfl ?_
    refine j_callV_i 21 cx 1 [0, 1] [.int (fcode 5)] (fun _ => wMO o am (sP S) la (nI (sL S)) tk be an va bd ++ ([((am 3), .inl (gI G, 7, .inl (upd (sF S) 5 ((sF S) 5 + 1))))] ++ ([((am 5), .inl (gI G, 4, .inl (sB S)))] ++ ([((am 6), .inl (gI G, 4, .inl (zN (sZ S))))] ++ [((am 7), .inl (gJ G, 160, .inr (.inl (cm (sC S)))))])))) (c_X6_finds (kl K) G o am (sP S) la (nI (sL S)) tk be an va bd (sF S) 5 (by decide)) gX6_copy_X6_finds rfl rfl rfl ⟨rfl, by decide, by decide, rfl⟩ ⟨Nat.le_of_ble_eq_true rfl, Nat.le_of_ble_eq_true rfl⟩ ⟨Nat.zero_le _, Nat.zero_le _⟩ rfl (by decide) (ci := 5) 0 rfl rfl rfl rfl rfl (Nat.le_of_ble_eq_true rfl) dX6_copy_21 (fun _ => rfl) (fun zu2 zk2 => ?_)
    refine j_top (fcode 5) rfl ?_
    have ze : (sp_copy (nI k) a (nI k2) b n S) = bad S 5 := by unfold sp_copy; rw [if_pos ⟨s_in hk, s_in hk2⟩, show pN (nI k) = k from nI_clamp (by omega), show pN (nI k2) = k2 from nI_clamp (by omega), if_pos (of_decide_eq_true zc1)]
    exact fin () _ _ _ _ dX6_copy_24 rfl (by rw [ze] <;> rfl) (by rw [ze] <;> rfl) trivial
  · skip
    refine j_aload_n 0 cx 0 dX6_copy_0 rfl ?_
    rcases bcase (decide (sB S k = sB S k2)) with zc2 | zc2
    · skip
      refine j_iload_n 1 cx 1 dX6_copy_1 rfl ?_
      rcases bcase (spanB (nI (sZ S k)) a n && spanB (nI (sZ S k2)) b n) with zc3 | zc3
      · skip
        refine j_iload_n 2 cx 2 dX6_copy_2 rfl ?_
        refine j_iload_n 3 cx 3 dX6_copy_3 rfl ?_
        refine j_iload 4 cx 4 dX6_copy_4 rfl ?_
        refine j_iload 6 cx 5 dX6_copy_6 rfl ?_
        refine j_callV_i 8 cx 5 [0, 2, 3] [.int (nI k), .int a, .int (nI k2), .int b, .int n] (fun _ => wMO o am (sP S) la (nI (sL S)) tk be an va bd ++ ([((am 3), .inl (gI G, 7, .inl (sF S)))] ++ ([((am 5), .inl (gI G, 4, .inl (sB S)))] ++ ([((am 6), .inl (gI G, 4, .inl (zN (sZ S))))] ++ [((am 7), .inl (gJ G, 160, .inr (.inl (cm (sC S)))))])))) (c_X6_notCopied_t (kl K) G o am (sP S) la (nI (sL S)) tk be an va bd (sB S) (sZ S) k hk k2 hk2 a b n) gX6_copy_X6_notCopied rfl rfl rfl ⟨rfl, by decide, by decide, rfl⟩ ⟨Nat.le_of_ble_eq_true rfl, Nat.le_of_ble_eq_true rfl⟩ ⟨Nat.zero_le _, Nat.zero_le _⟩ rfl (by decide) (ci := 5) 0 rfl rfl rfl rfl rfl (Nat.le_of_ble_eq_true rfl) dX6_copy_8 (fun _ => rfl) (fun zu3 zk3 => ?_)
        refine j_top (ncF ((sB S) k) ((sB S) k2) ((sZ S) k) ((sZ S) k2) a b n) rfl ?_
        refine j_top (0) (nc_1 hz hz2 zc1 zc2 zc3) ?_
        refine j_istore 11 cx [(6, .int 0), (0, .ref o), (1, .int (nI k)), (2, .int a), (3, .int (nI k2)), (4, .int b), (5, .int n)] dX6_copy_11 (by decide) rfl ?_
        refine j_iload 13 cx 0 dX6_copy_13 rfl ?_
        refine j_if_eq_T 15 cx 25 dX6_copy_15 (by decide) (by decide) ?_
        obtain ⟨hs1, hs2⟩ := Bool.and_eq_true_iff.mp zc3
        obtain ⟨a0, b0, n0, rfl, rfl, rfl, hn1, hn2⟩ := span_nat hz hz2 hs1 hs2
        have hca : pN (nI a0) = a0 := nI_clamp (by omega)
        have hcb : pN (nI b0) = b0 := nI_clamp (by omega)
        have hcn : pN (nI n0) = n0 := nI_clamp (by omega)
        refine j_iconst 25 cx 0 dX6_copy_25 (by decide) ?_
        refine j_istore 26 cx [(7, .int 0), (6, .int 0), (0, .ref o), (1, .int (nI k)), (2, .int (nI a0)), (3, .int (nI k2)), (4, .int (nI b0)), (5, .int (nI n0))] dX6_copy_26 (by decide) rfl ?_
        have L28 : ∀ d : Nat, ∀ (j : Nat), (j + d = n0) → JJ G K 0 0 (wMO o am (sP S) la (nI (sL S)) tk be an va bd ++ ([((am 3), .inl (gI G, 7, .inl (sF S)))] ++ ([((am 5), .inl (gI G, 4, .inl (sB S)))] ++ ([((am 6), .inl (gI G, 4, .inl (zN (sZ S))))] ++ [((am 7), .inl (gJ G, 160, .inr (.inl (cm (uA (sC S) k2 (mvF (sC S k) (sC S k2) a0 b0 n0 j))))))])))) [(7, .int (nI j)), (5, .int (nI n0)), (4, .int (nI b0)), (3, .int (nI k2)), (2, .int (nI a0)), (1, .int (nI k)), (0, .ref o)] 28 [] := by
          intro d
          induction d with
          | zero =>
            intro j hj
            refine j_iload 28 cx 0 dX6_copy_28 rfl ?_
            refine j_iload 30 cx 1 dX6_copy_30 rfl ?_
            refine j_icmp_ge_T 32 cx 90 dX6_copy_32 (by decide) (nI_le (by omega) (by omega)) ?_
            refine j_ws (wMO o am (sP S) la (nI (sL S)) tk be an va bd ++ ([((am 3), .inl (gI G, 7, .inl (sF S)))] ++ ([((am 5), .inl (gI G, 4, .inl (sB S)))] ++ ([((am 6), .inl (gI G, 4, .inl (zN (sZ S))))] ++ [((am 7), .inl (gJ G, 160, .inr (.inl (cm (uA (sC S) k2 (va_cpy (sC S k) (sC S k2) a0 b0 n0))))))])))) (congrArg (fun zf : Nat → Nat → Int64 => wMO o am (sP S) la (nI (sL S)) tk be an va bd ++ ([((am 3), .inl (gI G, 7, .inl (sF S)))] ++ ([((am 5), .inl (gI G, 4, .inl (sB S)))] ++ ([((am 6), .inl (gI G, 4, .inl (zN (sZ S))))] ++ [((am 7), .inl (gJ G, 160, .inr (.inl (cm zf))))])))) (show (uA (sC S) k2 (mvF (sC S k) (sC S k2) a0 b0 n0 j)) = (uA (sC S) k2 (va_cpy (sC S k) (sC S k2) a0 b0 n0)) from by rw [show j = n0 from by omega, mv_n])) ?_
            refine j_iload 90 cx 1 dX6_copy_90 rfl ?_
            have ze : (sp_copy (nI k) (nI a0) (nI k2) (nI b0) (nI n0) S) = (nI n0, stB S (sB S) (sZ S) (uA (sC S) k2 (va_cpy (sC S k) (sC S k2) a0 b0 n0))) := by unfold sp_copy; rw [if_pos ⟨s_in hk, s_in hk2⟩, show pN (nI k) = k from nI_clamp (by omega), show pN (nI k2) = k2 from nI_clamp (by omega), if_neg (of_decide_eq_false zc1), if_neg (not_not_intro (of_decide_eq_true zc2)), if_pos ⟨hs1, hs2⟩, hca, hcb, hcn]
            exact fin () _ _ _ _ dX6_copy_92 rfl (by rw [ze] <;> rfl) (by rw [ze] <;> rfl) trivial
          | succ d ih28 =>
            intro j hj
            refine j_iload 28 cx 0 dX6_copy_28 rfl ?_
            refine j_iload 30 cx 1 dX6_copy_30 rfl ?_
            refine j_icmp_ge_F 32 cx 90 dX6_copy_32 (by decide) (nI_ge (by omega) (by omega)) ?_
            refine j_iload_n 35 cx 4 dX6_copy_35 rfl ?_
            refine j_iload 36 cx 2 dX6_copy_36 rfl ?_
            refine j_icmp_ge 38 cx 51 dX6_copy_38 (by decide) (fun zc4 => ?_) (fun zc4 => ?_)
            · skip
              refine j_iload 51 cx 0 dX6_copy_51 rfl ?_
              refine j_top (nI (mvI a0 b0 n0 j)) (congrArg nI (mvI_f (mt (nI_ltI (by omega) (by omega)).mpr (Int32.not_lt.mpr zc4)))) ?_
              have hmv : mvI a0 b0 n0 j < n0 := by unfold mvI; split <;> omega
              refine j_istore 53 cx [(8, .int (nI (mvI a0 b0 n0 j))), (7, .int (nI j)), (5, .int (nI n0)), (4, .int (nI b0)), (3, .int (nI k2)), (2, .int (nI a0)), (1, .int (nI k)), (0, .ref o)] dX6_copy_53 (by decide) rfl ?_
              refine j_aload_n 55 cx 7 dX6_copy_55 rfl ?_
              refine j_get 56 cx 0 15 (T := TX6) (v := .ref ((am 7))) (fun _ h => List.mem_cons_of_mem _ (List.mem_append_right _ (h))) (List.mem_of_getElem? (i := 1) rfl) (ci := 5) rfl (by decide) rfl rfl rfl dX6_copy_56 ?_
              refine j_bipush 59 cx 40 dX6_copy_59 (by decide) ?_
              refine j_iload_n 61 cx 4 dX6_copy_61 rfl ?_
              refine j_imul 62 cx dX6_copy_62 ?_
              refine j_top (nI (40 * k2)) (pk_mul 40 k2) ?_
              refine j_iload 63 cx 3 dX6_copy_63 rfl ?_
              refine j_iadd 65 cx dX6_copy_65 ?_
              refine j_top (nI (40 * k2 + b0)) (nI_add (40 * k2) b0) ?_
              refine j_iload 66 cx 0 dX6_copy_66 rfl ?_
              refine j_iadd 68 cx dX6_copy_68 ?_
              refine j_top (nI (40 * k2 + (b0 + mvI a0 b0 n0 j))) ((nI_add _ _).trans (congrArg nI (Nat.add_assoc _ _ _))) ?_
              refine j_aload_n 69 cx 7 dX6_copy_69 rfl ?_
              refine j_get 70 cx 0 15 (T := TX6) (v := .ref ((am 7))) (fun _ h => List.mem_cons_of_mem _ (List.mem_append_right _ (h))) (List.mem_of_getElem? (i := 1) rfl) (ci := 5) rfl (by decide) rfl rfl rfl dX6_copy_70 ?_
              refine j_bipush 73 cx 40 dX6_copy_73 (by decide) ?_
              refine j_iload_n 75 cx 6 dX6_copy_75 rfl ?_
              refine j_imul 76 cx dX6_copy_76 ?_
              refine j_top (nI (40 * k)) (pk_mul 40 k) ?_
              refine j_iload_n 77 cx 5 dX6_copy_77 rfl ?_
              refine j_iadd 78 cx dX6_copy_78 ?_
              refine j_top (nI (40 * k + a0)) (nI_add (40 * k) a0) ?_
              refine j_iload 79 cx 0 dX6_copy_79 rfl ?_
              refine j_iadd 81 cx dX6_copy_81 ?_
              refine j_top (nI (40 * k + (a0 + mvI a0 b0 n0 j))) ((nI_add _ _).trans (congrArg nI (Nat.add_assoc _ _ _))) ?_
              refine j_lald 82 cx 4 (40 * k + (a0 + mvI a0 b0 n0 j)) rfl rfl (by omega) (by decide) dX6_copy_82 ?_
              refine j_topl ((uA (sC S) k2 (mvF (sC S k) (sC S k2) a0 b0 n0 j)) k (a0 + mvI a0 b0 n0 j)) (cm_at _ k (by omega)) ?_
              refine j_last 83 cx 4 (40 * k2 + (b0 + mvI a0 b0 n0 j)) (wMO o am (sP S) la (nI (sL S)) tk be an va bd ++ ([((am 3), .inl (gI G, 7, .inl (sF S)))] ++ ([((am 5), .inl (gI G, 4, .inl (sB S)))] ++ ([((am 6), .inl (gI G, 4, .inl (zN (sZ S))))] ++ [((am 7), .inl (gJ G, 160, .inr (.inl (vp_updL (cm (uA (sC S) k2 (mvF (sC S k) (sC S k2) a0 b0 n0 j))) (40 * k2 + (b0 + mvI a0 b0 n0 j)) ((uA (sC S) k2 (mvF (sC S k) (sC S k2) a0 b0 n0 j)) k (a0 + mvI a0 b0 n0 j))))))])))) rfl rfl (by omega) (by decide) rfl dX6_copy_83 ?_
              refine j_ws (wMO o am (sP S) la (nI (sL S)) tk be an va bd ++ ([((am 3), .inl (gI G, 7, .inl (sF S)))] ++ ([((am 5), .inl (gI G, 4, .inl (sB S)))] ++ ([((am 6), .inl (gI G, 4, .inl (zN (sZ S))))] ++ [((am 7), .inl (gJ G, 160, .inr (.inl (cm (uA (uA (sC S) k2 (mvF (sC S k) (sC S k2) a0 b0 n0 j)) k2 (vp_updL ((uA (sC S) k2 (mvF (sC S k) (sC S k2) a0 b0 n0 j)) k2) (b0 + mvI a0 b0 n0 j) ((uA (sC S) k2 (mvF (sC S k) (sC S k2) a0 b0 n0 j)) k (a0 + mvI a0 b0 n0 j))))))))])))) (congrArg (fun zf : Nat → Int64 => wMO o am (sP S) la (nI (sL S)) tk be an va bd ++ ([((am 3), .inl (gI G, 7, .inl (sF S)))] ++ ([((am 5), .inl (gI G, 4, .inl (sB S)))] ++ ([((am 6), .inl (gI G, 4, .inl (zN (sZ S))))] ++ [((am 7), .inl (gJ G, 160, .inr (.inl zf)))])))) (cm_up _ k2 _ (by omega))) ?_
              refine j_iinc 84 cx [(7, .int (nI (j + 1))), (8, .int (nI (mvI a0 b0 n0 j))), (5, .int (nI n0)), (4, .int (nI b0)), (3, .int (nI k2)), (2, .int (nI a0)), (1, .int (nI k)), (0, .ref o)] 1 (nI (j + 1)) dX6_copy_84 rfl (iinc1 j) (by decide) rfl ?_
              refine j_goto 87 cx 28 dX6_copy_87 (by decide) ?_
              refine j_lv [0, 2, 3, 4, 5, 6, 7] rfl ?_
              have h9 := ih28 (j + 1) (by omega)
              rw [← mv_s (sC S) k k2 a0 b0 n0 (by omega)] at h9
              exact h9
            · skip
              refine j_iload 41 cx 1 dX6_copy_41 rfl ?_
              refine j_iconst 43 cx 1 dX6_copy_43 (by decide) ?_
              refine j_isub 44 cx dX6_copy_44 ?_
              refine j_top (nI (n0 - 1)) (pk_sub (b := 1) (by omega)) ?_
              refine j_iload 45 cx 0 dX6_copy_45 rfl ?_
              refine j_isub 47 cx dX6_copy_47 ?_
              refine j_top (nI (n0 - 1 - j)) (pk_sub (by omega)) ?_
              refine j_goto 48 cx 53 dX6_copy_48 (by decide) ?_
              refine j_top (nI (mvI a0 b0 n0 j)) (congrArg nI (mvI_t ((nI_ltI (by omega) (by omega)).mp (Int32.not_le.mp zc4)))) ?_
              have hmv : mvI a0 b0 n0 j < n0 := by unfold mvI; split <;> omega
              refine j_istore 53 cx [(8, .int (nI (mvI a0 b0 n0 j))), (7, .int (nI j)), (5, .int (nI n0)), (4, .int (nI b0)), (3, .int (nI k2)), (2, .int (nI a0)), (1, .int (nI k)), (0, .ref o)] dX6_copy_53 (by decide) rfl ?_
              refine j_aload_n 55 cx 7 dX6_copy_55 rfl ?_
              refine j_get 56 cx 0 15 (T := TX6) (v := .ref ((am 7))) (fun _ h => List.mem_cons_of_mem _ (List.mem_append_right _ (h))) (List.mem_of_getElem? (i := 1) rfl) (ci := 5) rfl (by decide) rfl rfl rfl dX6_copy_56 ?_
              refine j_bipush 59 cx 40 dX6_copy_59 (by decide) ?_
              refine j_iload_n 61 cx 4 dX6_copy_61 rfl ?_
              refine j_imul 62 cx dX6_copy_62 ?_
              refine j_top (nI (40 * k2)) (pk_mul 40 k2) ?_
              refine j_iload 63 cx 3 dX6_copy_63 rfl ?_
              refine j_iadd 65 cx dX6_copy_65 ?_
              refine j_top (nI (40 * k2 + b0)) (nI_add (40 * k2) b0) ?_
              refine j_iload 66 cx 0 dX6_copy_66 rfl ?_
              refine j_iadd 68 cx dX6_copy_68 ?_
              refine j_top (nI (40 * k2 + (b0 + mvI a0 b0 n0 j))) ((nI_add _ _).trans (congrArg nI (Nat.add_assoc _ _ _))) ?_
              refine j_aload_n 69 cx 7 dX6_copy_69 rfl ?_
              refine j_get 70 cx 0 15 (T := TX6) (v := .ref ((am 7))) (fun _ h => List.mem_cons_of_mem _ (List.mem_append_right _ (h))) (List.mem_of_getElem? (i := 1) rfl) (ci := 5) rfl (by decide) rfl rfl rfl dX6_copy_70 ?_
              refine j_bipush 73 cx 40 dX6_copy_73 (by decide) ?_
              refine j_iload_n 75 cx 6 dX6_copy_75 rfl ?_
              refine j_imul 76 cx dX6_copy_76 ?_
              refine j_top (nI (40 * k)) (pk_mul 40 k) ?_
              refine j_iload_n 77 cx 5 dX6_copy_77 rfl ?_
              refine j_iadd 78 cx dX6_copy_78 ?_
              refine j_top (nI (40 * k + a0)) (nI_add (40 * k) a0) ?_
              refine j_iload 79 cx 0 dX6_copy_79 rfl ?_
              refine j_iadd 81 cx dX6_copy_81 ?_
              refine j_top (nI (40 * k + (a0 + mvI a0 b0 n0 j))) ((nI_add _ _).trans (congrArg nI (Nat.add_assoc _ _ _))) ?_
              refine j_lald 82 cx 4 (40 * k + (a0 + mvI a0 b0 n0 j)) rfl rfl (by omega) (by decide) dX6_copy_82 ?_
              refine j_topl ((uA (sC S) k2 (mvF (sC S k) (sC S k2) a0 b0 n0 j)) k (a0 + mvI a0 b0 n0 j)) (cm_at _ k (by omega)) ?_
              refine j_last 83 cx 4 (40 * k2 + (b0 + mvI a0 b0 n0 j)) (wMO o am (sP S) la (nI (sL S)) tk be an va bd ++ ([((am 3), .inl (gI G, 7, .inl (sF S)))] ++ ([((am 5), .inl (gI G, 4, .inl (sB S)))] ++ ([((am 6), .inl (gI G, 4, .inl (zN (sZ S))))] ++ [((am 7), .inl (gJ G, 160, .inr (.inl (vp_updL (cm (uA (sC S) k2 (mvF (sC S k) (sC S k2) a0 b0 n0 j))) (40 * k2 + (b0 + mvI a0 b0 n0 j)) ((uA (sC S) k2 (mvF (sC S k) (sC S k2) a0 b0 n0 j)) k (a0 + mvI a0 b0 n0 j))))))])))) rfl rfl (by omega) (by decide) rfl dX6_copy_83 ?_
              refine j_ws (wMO o am (sP S) la (nI (sL S)) tk be an va bd ++ ([((am 3), .inl (gI G, 7, .inl (sF S)))] ++ ([((am 5), .inl (gI G, 4, .inl (sB S)))] ++ ([((am 6), .inl (gI G, 4, .inl (zN (sZ S))))] ++ [((am 7), .inl (gJ G, 160, .inr (.inl (cm (uA (uA (sC S) k2 (mvF (sC S k) (sC S k2) a0 b0 n0 j)) k2 (vp_updL ((uA (sC S) k2 (mvF (sC S k) (sC S k2) a0 b0 n0 j)) k2) (b0 + mvI a0 b0 n0 j) ((uA (sC S) k2 (mvF (sC S k) (sC S k2) a0 b0 n0 j)) k (a0 + mvI a0 b0 n0 j))))))))])))) (congrArg (fun zf : Nat → Int64 => wMO o am (sP S) la (nI (sL S)) tk be an va bd ++ ([((am 3), .inl (gI G, 7, .inl (sF S)))] ++ ([((am 5), .inl (gI G, 4, .inl (sB S)))] ++ ([((am 6), .inl (gI G, 4, .inl (zN (sZ S))))] ++ [((am 7), .inl (gJ G, 160, .inr (.inl zf)))])))) (cm_up _ k2 _ (by omega))) ?_
              refine j_iinc 84 cx [(7, .int (nI (j + 1))), (8, .int (nI (mvI a0 b0 n0 j))), (5, .int (nI n0)), (4, .int (nI b0)), (3, .int (nI k2)), (2, .int (nI a0)), (1, .int (nI k)), (0, .ref o)] 1 (nI (j + 1)) dX6_copy_84 rfl (iinc1 j) (by decide) rfl ?_
              refine j_goto 87 cx 28 dX6_copy_87 (by decide) ?_
              refine j_lv [0, 2, 3, 4, 5, 6, 7] rfl ?_
              have h9 := ih28 (j + 1) (by omega)
              rw [← mv_s (sC S) k k2 a0 b0 n0 (by omega)] at h9
              exact h9
        refine j_lv [0, 7, 6, 5, 4, 3, 2] rfl ?_
        refine j_ws (wMO o am (sP S) la (nI (sL S)) tk be an va bd ++ ([((am 3), .inl (gI G, 7, .inl (sF S)))] ++ ([((am 5), .inl (gI G, 4, .inl (sB S)))] ++ ([((am 6), .inl (gI G, 4, .inl (zN (sZ S))))] ++ [((am 7), .inl (gJ G, 160, .inr (.inl (cm (uA (sC S) k2 (mvF (sC S k) (sC S k2) a0 b0 n0 0))))))])))) (congrArg (fun zf : Nat → Nat → Int64 => wMO o am (sP S) la (nI (sL S)) tk be an va bd ++ ([((am 3), .inl (gI G, 7, .inl (sF S)))] ++ ([((am 5), .inl (gI G, 4, .inl (sB S)))] ++ ([((am 6), .inl (gI G, 4, .inl (zN (sZ S))))] ++ [((am 7), .inl (gJ G, 160, .inr (.inl (cm zf))))])))) (show sC S = (uA (sC S) k2 (mvF (sC S k) (sC S k2) a0 b0 n0 0)) from by rw [mv_0, uA_id])) ?_
        exact L28 n0 0 (by omega)
      · skip
        refine j_iload_n 2 cx 2 dX6_copy_2 rfl ?_
        refine j_iload_n 3 cx 3 dX6_copy_3 rfl ?_
        refine j_iload 4 cx 4 dX6_copy_4 rfl ?_
        refine j_iload 6 cx 5 dX6_copy_6 rfl ?_
        refine j_callV_i 8 cx 5 [0, 2, 3] [.int (nI k), .int a, .int (nI k2), .int b, .int n] (fun _ => wMO o am (sP S) la (nI (sL S)) tk be an va bd ++ ([((am 3), .inl (gI G, 7, .inl (sF S)))] ++ ([((am 5), .inl (gI G, 4, .inl (sB S)))] ++ ([((am 6), .inl (gI G, 4, .inl (zN (sZ S))))] ++ [((am 7), .inl (gJ G, 160, .inr (.inl (cm (sC S)))))])))) (c_X6_notCopied_t (kl K) G o am (sP S) la (nI (sL S)) tk be an va bd (sB S) (sZ S) k hk k2 hk2 a b n) gX6_copy_X6_notCopied rfl rfl rfl ⟨rfl, by decide, by decide, rfl⟩ ⟨Nat.le_of_ble_eq_true rfl, Nat.le_of_ble_eq_true rfl⟩ ⟨Nat.zero_le _, Nat.zero_le _⟩ rfl (by decide) (ci := 5) 0 rfl rfl rfl rfl rfl (Nat.le_of_ble_eq_true rfl) dX6_copy_8 (fun _ => rfl) (fun zu4 zk4 => ?_)
        refine j_top (ncF ((sB S) k) ((sB S) k2) ((sZ S) k) ((sZ S) k2) a b n) rfl ?_
        refine j_top ((-1000000001)) (nc_0 hz hz2 zc1 zc2 zc3) ?_
        refine j_istore 11 cx [(6, .int ((-1000000001))), (0, .ref o), (1, .int (nI k)), (2, .int a), (3, .int (nI k2)), (4, .int b), (5, .int n)] dX6_copy_11 (by decide) rfl ?_
        refine j_iload 13 cx 0 dX6_copy_13 rfl ?_
        refine j_if_eq_F 15 cx 25 dX6_copy_15 (by decide) (by decide) ?_
        refine j_aload_n 18 cx 1 dX6_copy_18 rfl ?_
        refine j_iload 19 cx 0 dX6_copy_19 rfl ?_
        refine j_callV_i 21 cx 1 [0, 1] [.int (fcode 0)] (fun _ => wMO o am (sP S) la (nI (sL S)) tk be an va bd ++ ([((am 3), .inl (gI G, 7, .inl (upd (sF S) 0 ((sF S) 0 + 1))))] ++ ([((am 5), .inl (gI G, 4, .inl (sB S)))] ++ ([((am 6), .inl (gI G, 4, .inl (zN (sZ S))))] ++ [((am 7), .inl (gJ G, 160, .inr (.inl (cm (sC S)))))])))) (c_X6_finds (kl K) G o am (sP S) la (nI (sL S)) tk be an va bd (sF S) 0 (by decide)) gX6_copy_X6_finds rfl rfl rfl ⟨rfl, by decide, by decide, rfl⟩ ⟨Nat.le_of_ble_eq_true rfl, Nat.le_of_ble_eq_true rfl⟩ ⟨Nat.zero_le _, Nat.zero_le _⟩ rfl (by decide) (ci := 5) 0 rfl rfl rfl rfl rfl (Nat.le_of_ble_eq_true rfl) dX6_copy_21 (fun _ => rfl) (fun zu5 zk5 => ?_)
        refine j_top (fcode 0) rfl ?_
        have ze : (sp_copy (nI k) a (nI k2) b n S) = bad S 0 := by unfold sp_copy; rw [if_pos ⟨s_in hk, s_in hk2⟩, show pN (nI k) = k from nI_clamp (by omega), show pN (nI k2) = k2 from nI_clamp (by omega), if_neg (of_decide_eq_false zc1), if_neg (not_not_intro (of_decide_eq_true zc2)), if_neg (fun q => by rw [q.1, q.2] at zc3; cases zc3)]
        exact fin () _ _ _ _ dX6_copy_24 rfl (by rw [ze] <;> rfl) (by rw [ze] <;> rfl) trivial
    · skip
      refine j_iload_n 1 cx 1 dX6_copy_1 rfl ?_
      refine j_iload_n 2 cx 2 dX6_copy_2 rfl ?_
      refine j_iload_n 3 cx 3 dX6_copy_3 rfl ?_
      refine j_iload 4 cx 4 dX6_copy_4 rfl ?_
      refine j_iload 6 cx 5 dX6_copy_6 rfl ?_
      refine j_callV_i 8 cx 5 [0, 2, 3] [.int (nI k), .int a, .int (nI k2), .int b, .int n] (fun _ => wMO o am (sP S) la (nI (sL S)) tk be an va bd ++ ([((am 3), .inl (gI G, 7, .inl (sF S)))] ++ ([((am 5), .inl (gI G, 4, .inl (sB S)))] ++ ([((am 6), .inl (gI G, 4, .inl (zN (sZ S))))] ++ [((am 7), .inl (gJ G, 160, .inr (.inl (cm (sC S)))))])))) (c_X6_notCopied_t (kl K) G o am (sP S) la (nI (sL S)) tk be an va bd (sB S) (sZ S) k hk k2 hk2 a b n) gX6_copy_X6_notCopied rfl rfl rfl ⟨rfl, by decide, by decide, rfl⟩ ⟨Nat.le_of_ble_eq_true rfl, Nat.le_of_ble_eq_true rfl⟩ ⟨Nat.zero_le _, Nat.zero_le _⟩ rfl (by decide) (ci := 5) 0 rfl rfl rfl rfl rfl (Nat.le_of_ble_eq_true rfl) dX6_copy_8 (fun _ => rfl) (fun zu6 zk6 => ?_)
      refine j_top (ncF ((sB S) k) ((sB S) k2) ((sZ S) k) ((sZ S) k2) a b n) rfl ?_
      refine j_top ((-1000000003)) (nc_2 zc1 zc2) ?_
      refine j_istore 11 cx [(6, .int ((-1000000003))), (0, .ref o), (1, .int (nI k)), (2, .int a), (3, .int (nI k2)), (4, .int b), (5, .int n)] dX6_copy_11 (by decide) rfl ?_
      refine j_iload 13 cx 0 dX6_copy_13 rfl ?_
      refine j_if_eq_F 15 cx 25 dX6_copy_15 (by decide) (by decide) ?_
      refine j_aload_n 18 cx 1 dX6_copy_18 rfl ?_
      refine j_iload 19 cx 0 dX6_copy_19 rfl ?_
      refine j_callV_i 21 cx 1 [0, 1] [.int (fcode 2)] (fun _ => wMO o am (sP S) la (nI (sL S)) tk be an va bd ++ ([((am 3), .inl (gI G, 7, .inl (upd (sF S) 2 ((sF S) 2 + 1))))] ++ ([((am 5), .inl (gI G, 4, .inl (sB S)))] ++ ([((am 6), .inl (gI G, 4, .inl (zN (sZ S))))] ++ [((am 7), .inl (gJ G, 160, .inr (.inl (cm (sC S)))))])))) (c_X6_finds (kl K) G o am (sP S) la (nI (sL S)) tk be an va bd (sF S) 2 (by decide)) gX6_copy_X6_finds rfl rfl rfl ⟨rfl, by decide, by decide, rfl⟩ ⟨Nat.le_of_ble_eq_true rfl, Nat.le_of_ble_eq_true rfl⟩ ⟨Nat.zero_le _, Nat.zero_le _⟩ rfl (by decide) (ci := 5) 0 rfl rfl rfl rfl rfl (Nat.le_of_ble_eq_true rfl) dX6_copy_21 (fun _ => rfl) (fun zu7 zk7 => ?_)
      refine j_top (fcode 2) rfl ?_
      have ze : (sp_copy (nI k) a (nI k2) b n S) = bad S 2 := by unfold sp_copy; rw [if_pos ⟨s_in hk, s_in hk2⟩, show pN (nI k) = k from nI_clamp (by omega), show pN (nI k2) = k2 from nI_clamp (by omega), if_neg (of_decide_eq_false zc1), if_pos ( (of_decide_eq_false zc2))]
      exact fin () _ _ _ _ dX6_copy_24 rfl (by rw [ze] <;> rfl) (by rw [ze] <;> rfl) trivial
set_option maxRecDepth 100000 in
set_option maxHeartbeats 4000000 in
theorem c_X6_copy_f (l : Launch) (G : pG) (o : Nat) (am : Nat → Nat) (S : St) (la tk be an va : Int32) (bd : Bool) (s t : Int32) (hv : ¬ (inI s 0 3 = true ∧ inI t 0 3 = true)) (a b n : Int32) : KI l G yX6_copy wsX6_copy ({ frames := 3, cells := 0, slots := 0, locals := 69 } : Room) [.ref o, .int s, .int a, .int t, .int b, .int n] (wMO o am (sP S) la (nI (sL S)) tk be an va bd ++ ([((am 3), .inl (gI G, 7, .inl (sF S)))] ++ ([((am 5), .inl (gI G, 4, .inl (sB S)))] ++ ([((am 6), .inl (gI G, 4, .inl (zN (sZ S))))] ++ [((am 7), .inl (gJ G, 160, .inr (.inl (cm (sC S)))))])))) (S := Unit) (fun _ => True) (fun u => (sp_copy s a t b n S).1) (fun u => wMO o am (sP S) la (nI (sL S)) tk be an va bd ++ ([((am 3), .inl (gI G, 7, .inl (sF (sp_copy s a t b n S).2)))] ++ ([((am 5), .inl (gI G, 4, .inl (sB (sp_copy s a t b n S).2)))] ++ ([((am 6), .inl (gI G, 4, .inl (zN (sZ (sp_copy s a t b n S).2))))] ++ [((am 7), .inl (gJ G, 160, .inr (.inl (cm (sC (sp_copy s a t b n S).2)))))])))) := by
  refine ki_of [(0, .ref o), (1, .int s), (2, .int a), (3, .int t), (4, .int b), (5, .int n)] (own := RX6) (cc := cX6_copy) (nL := 9) (by decide +kernel) rfl rfl (Nat.le_of_ble_eq_true rfl) rfl (fun _ => rfl) (fun K cx fin => ?_)
  refine j_aload_n 0 cx 0 dX6_copy_0 rfl ?_
  refine j_iload_n 1 cx 1 dX6_copy_1 rfl ?_
  refine j_iload_n 2 cx 2 dX6_copy_2 rfl ?_
  refine j_iload_n 3 cx 3 dX6_copy_3 rfl ?_
  refine j_iload 4 cx 4 dX6_copy_4 rfl ?_
  refine j_iload 6 cx 5 dX6_copy_6 rfl ?_
  refine j_callV_i 8 cx 5 [0, 2, 3] [.int s, .int a, .int t, .int b, .int n] (fun _ => wMO o am (sP S) la (nI (sL S)) tk be an va bd ++ ([((am 3), .inl (gI G, 7, .inl (sF S)))] ++ ([((am 5), .inl (gI G, 4, .inl (sB S)))] ++ ([((am 6), .inl (gI G, 4, .inl (zN (sZ S))))] ++ [((am 7), .inl (gJ G, 160, .inr (.inl (cm (sC S)))))])))) (c_X6_notCopied_f (kl K) G o am (sP S) la (nI (sL S)) tk be an va bd (sB S) (sZ S) s t hv a b n) gX6_copy_X6_notCopied rfl rfl rfl ⟨rfl, by decide, by decide, rfl⟩ ⟨Nat.le_of_ble_eq_true rfl, Nat.le_of_ble_eq_true rfl⟩ ⟨Nat.zero_le _, Nat.zero_le _⟩ rfl (by decide) (ci := 5) 0 rfl rfl rfl rfl rfl (Nat.le_of_ble_eq_true rfl) dX6_copy_8 (fun _ => rfl) (fun zu1 zk1 => ?_)
  refine j_top ((-1000000001)) rfl ?_
  refine j_istore 11 cx [(6, .int ((-1000000001))), (0, .ref o), (1, .int s), (2, .int a), (3, .int t), (4, .int b), (5, .int n)] dX6_copy_11 (by decide) rfl ?_
  refine j_iload 13 cx 0 dX6_copy_13 rfl ?_
  refine j_if_eq_F 15 cx 25 dX6_copy_15 (by decide) (by decide) ?_
  refine j_aload_n 18 cx 1 dX6_copy_18 rfl ?_
  refine j_iload 19 cx 0 dX6_copy_19 rfl ?_
  refine j_callV_i 21 cx 1 [0, 1] [.int (fcode 0)] (fun _ => wMO o am (sP S) la (nI (sL S)) tk be an va bd ++ ([((am 3), .inl (gI G, 7, .inl (upd (sF S) 0 ((sF S) 0 + 1))))] ++ ([((am 5), .inl (gI G, 4, .inl (sB S)))] ++ ([((am 6), .inl (gI G, 4, .inl (zN (sZ S))))] ++ [((am 7), .inl (gJ G, 160, .inr (.inl (cm (sC S)))))])))) (c_X6_finds (kl K) G o am (sP S) la (nI (sL S)) tk be an va bd (sF S) 0 (by decide)) gX6_copy_X6_finds rfl rfl rfl ⟨rfl, by decide, by decide, rfl⟩ ⟨Nat.le_of_ble_eq_true rfl, Nat.le_of_ble_eq_true rfl⟩ ⟨Nat.zero_le _, Nat.zero_le _⟩ rfl (by decide) (ci := 5) 0 rfl rfl rfl rfl rfl (Nat.le_of_ble_eq_true rfl) dX6_copy_21 (fun _ => rfl) (fun zu2 zk2 => ?_)
  refine j_top (fcode 0) rfl ?_
  have ze : (sp_copy s a t b n S) = bad S 0 := by unfold sp_copy; rw [if_neg hv]
  exact fin () _ _ _ _ dX6_copy_24 rfl (by rw [ze] <;> rfl) (by rw [ze] <;> rfl) trivial
