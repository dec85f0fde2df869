set_option maxRecDepth 100000 in
set_option maxHeartbeats 4000000 in
theorem c_X6_sheet_t0 (l : Launch) (G : pG) (o : Nat) (am : Nat → Nat) (S : St) (la tk be an va : Int32) (bd : Bool) (k : Nat) (hk : k < 4) (b n : Int32) (hb : b = 0) : KI l G yX6_sheet wsX6_sheet ({ frames := 2, cells := 0, slots := 0, locals := 43 } : Room) [.ref o, .int (nI k), .int b, .int n] (wMO o am (sP S) la (nI (sL S)) tk be an va bd ++ ([((am 3), .inl (gI G, 7, .inl (sF S)))] ++ ([((am 5), .inl (gI G, 4, .inl (sB S)))] ++ ([((am 6), .inl (gI G, 4, .inl (zN (sZ S))))] ++ [((am 7), .inl (gJ G, 160, .inr (.inl (cm (sC S)))))])))) (S := Unit) (fun _ => True) (fun u => (sp_sheet (nI k) b n S).1) (fun u => wMO o am (sP S) la (nI (sL S)) tk be an va bd ++ ([((am 3), .inl (gI G, 7, .inl (sF (sp_sheet (nI k) b n S).2)))] ++ ([((am 5), .inl (gI G, 4, .inl (sB (sp_sheet (nI k) b n S).2)))] ++ ([((am 6), .inl (gI G, 4, .inl (zN (sZ (sp_sheet (nI k) b n S).2))))] ++ [((am 7), .inl (gJ G, 160, .inr (.inl (cm (sC (sp_sheet (nI k) b n S).2)))))])))) := by
  refine ki_of [(0, .ref o), (1, .int (nI k)), (2, .int b), (3, .int n)] (own := RX6) (cc := cX6_sheet) (nL := 5) (by decide +kernel) rfl rfl (Nat.le_of_ble_eq_true rfl) rfl (fun _ => rfl) (fun K cx fin => ?_)
  refine j_iload_n 0 cx 1 dX6_sheet_0 rfl ?_
  refine j_callS_i 1 cx 1 [] [.int (nI k)] (fun _ => wMO o am (sP S) la (nI (sL S)) tk be an va bd ++ ([((am 3), .inl (gI G, 7, .inl (sF S)))] ++ ([((am 5), .inl (gI G, 4, .inl (sB S)))] ++ ([((am 6), .inl (gI G, 4, .inl (zN (sZ S))))] ++ [((am 7), .inl (gJ G, 160, .inr (.inl (cm (sC S)))))])))) (c_X6_isSheet (kl K) G (nI k)) gX6_sheet_X6_isSheet rfl rfl rfl ⟨by decide, by decide, rfl⟩ ⟨Nat.le_of_ble_eq_true rfl, Nat.le_of_ble_eq_true rfl⟩ ⟨Nat.zero_le _, Nat.zero_le _⟩ rfl (by decide) rfl rfl (Nat.le_of_ble_eq_true rfl) dX6_sheet_1 (fun _ => rfl) (fun zu1 zk1 => ?_)
  refine j_top (bI (inI (nI k) 0 3)) rfl ?_
  refine j_if_eq_F 4 cx 29 dX6_sheet_4 (by decide) (by rw [s_in hk]; decide) ?_
  refine j_iload_n 7 cx 2 dX6_sheet_7 rfl ?_
  refine j_if_eq_T 8 cx 36 dX6_sheet_8 (by decide) hb ?_
  refine j_iload_n 36 cx 3 dX6_sheet_36 rfl ?_
  refine j_if_ge 37 cx 47 dX6_sheet_37 (by decide) (fun zc1 => ?_) (fun zc1 => ?_)
  · skip
    have zge := zc1
    refine j_iload_n 47 cx 3 dX6_sheet_47 rfl ?_
    refine j_bipush 48 cx 40 dX6_sheet_48 (by decide) ?_
    refine j_icmp_le 50 cx 60 dX6_sheet_50 (by decide) (fun zc2 => ?_) (fun zc2 => ?_)
    · skip
      obtain ⟨m, hm, rfl⟩ := mx_n2 zge zc2
      have hcm : pN (nI m) = m := nI_clamp (by omega)
      refine j_aload_n 60 cx 0 dX6_sheet_60 rfl ?_
      refine j_get 61 cx 0 13 (T := TX6) (v := .ref ((am 5))) (fun _ h => List.mem_cons_of_mem _ (List.mem_append_right _ (h))) (List.mem_of_getElem? (i := 3) rfl) (ci := 5) rfl (by decide) rfl rfl rfl dX6_sheet_61 ?_
      refine j_iload_n 64 cx 1 dX6_sheet_64 rfl ?_
      refine j_iload_n 65 cx 2 dX6_sheet_65 rfl ?_
      refine j_iast 66 cx 2 k (wMO o am (sP S) la (nI (sL S)) tk be an va bd ++ ([((am 3), .inl (gI G, 7, .inl (sF S)))] ++ ([((am 5), .inl (gI G, 4, .inl (upd (sB S) k b)))] ++ ([((am 6), .inl (gI G, 4, .inl (zN (sZ S))))] ++ [((am 7), .inl (gJ G, 160, .inr (.inl (cm (sC S)))))])))) rfl rfl (by omega) (by decide) rfl dX6_sheet_66 ?_
      refine j_aload_n 67 cx 0 dX6_sheet_67 rfl ?_
      refine j_get 68 cx 0 14 (T := TX6) (v := .ref ((am 6))) (fun _ h => List.mem_cons_of_mem _ (List.mem_append_right _ (h))) (List.mem_of_getElem? (i := 4) rfl) (ci := 5) rfl (by decide) rfl rfl rfl dX6_sheet_68 ?_
      refine j_iload_n 71 cx 1 dX6_sheet_71 rfl ?_
      refine j_iload_n 72 cx 2 dX6_sheet_72 rfl ?_
      refine j_if_ne_F 73 cx 80 dX6_sheet_73 (by decide) hb ?_
      refine j_iconst 76 cx 0 dX6_sheet_76 (by decide) ?_
      refine j_goto 77 cx 81 dX6_sheet_77 (by decide) ?_
      refine j_iast 81 cx 3 k (wMO o am (sP S) la (nI (sL S)) tk be an va bd ++ ([((am 3), .inl (gI G, 7, .inl (sF S)))] ++ ([((am 5), .inl (gI G, 4, .inl (upd (sB S) k b)))] ++ ([((am 6), .inl (gI G, 4, .inl (upd (zN (sZ S)) k 0)))] ++ [((am 7), .inl (gJ G, 160, .inr (.inl (cm (sC S)))))])))) rfl rfl (by omega) (by decide) rfl dX6_sheet_81 ?_
      refine j_ws (wMO o am (sP S) la (nI (sL S)) tk be an va bd ++ ([((am 3), .inl (gI G, 7, .inl (sF S)))] ++ ([((am 5), .inl (gI G, 4, .inl (upd (sB S) k b)))] ++ ([((am 6), .inl (gI G, 4, .inl (zN (uA (sZ S) k 0))))] ++ [((am 7), .inl (gJ G, 160, .inr (.inl (cm (sC S)))))])))) (congrArg (fun zf : Nat → Int32 => wMO o am (sP S) la (nI (sL S)) tk be an va bd ++ ([((am 3), .inl (gI G, 7, .inl (sF S)))] ++ ([((am 5), .inl (gI G, 4, .inl (upd (sB S) k b)))] ++ ([((am 6), .inl (gI G, 4, .inl zf))] ++ [((am 7), .inl (gJ G, 160, .inr (.inl (cm (sC S)))))])))) (zN_u _ k 0)) ?_
      refine j_iconst 82 cx 0 dX6_sheet_82 (by decide) ?_
      refine j_istore 83 cx [(4, .int 0), (0, .ref o), (1, .int (nI k)), (2, .int b), (3, .int (nI m))] dX6_sheet_83 (by decide) rfl ?_
      have L85 : ∀ d : Nat, ∀ (j : Nat), (j + d = 40) → JJ G K 0 0 (wMO o am (sP S) la (nI (sL S)) tk be an va bd ++ ([((am 3), .inl (gI G, 7, .inl (sF S)))] ++ ([((am 5), .inl (gI G, 4, .inl (upd (sB S) k b)))] ++ ([((am 6), .inl (gI G, 4, .inl (zN (uA (sZ S) k 0))))] ++ [((am 7), .inl (gJ G, 160, .inr (.inl (cm (uA (sC S) k (zrF (sC S k) j))))))])))) [(4, .int (nI j)), (3, .int (nI m)), (2, .int b), (1, .int (nI k)), (0, .ref o)] 85 [] := by
        intro d
        induction d with
        | zero =>
          intro j hj
          refine j_iload 85 cx 0 dX6_sheet_85 rfl ?_
          refine j_bipush 87 cx 40 dX6_sheet_87 (by decide) ?_
          refine j_icmp_ge_T 89 cx 111 dX6_sheet_89 (by decide) (nI_le (a := 40) (by omega) (by omega)) ?_
          refine j_ws (wMO o am (sP S) la (nI (sL S)) tk be an va bd ++ ([((am 3), .inl (gI G, 7, .inl (sF S)))] ++ ([((am 5), .inl (gI G, 4, .inl (upd (sB S) k b)))] ++ ([((am 6), .inl (gI G, 4, .inl (zN (uA (sZ S) k 0))))] ++ [((am 7), .inl (gJ G, 160, .inr (.inl (cm (uA (sC S) k (fun _ => 0))))))])))) (congrArg (fun zf : Nat → Int64 => wMO o am (sP S) la (nI (sL S)) tk be an va bd ++ ([((am 3), .inl (gI G, 7, .inl (sF S)))] ++ ([((am 5), .inl (gI G, 4, .inl (upd (sB S) k b)))] ++ ([((am 6), .inl (gI G, 4, .inl (zN (uA (sZ S) k 0))))] ++ [((am 7), .inl (gJ G, 160, .inr (.inl zf)))])))) (cm_cg _ _ (fun i hi => zrF_in (by omega)))) ?_
          refine j_aload_n 111 cx 4 dX6_sheet_111 rfl ?_
          refine j_get 112 cx 0 14 (T := TX6) (v := .ref ((am 6))) (fun _ h => List.mem_cons_of_mem _ (List.mem_append_right _ (h))) (List.mem_of_getElem? (i := 4) rfl) (ci := 5) rfl (by decide) rfl rfl rfl dX6_sheet_112 ?_
          refine j_iload_n 115 cx 3 dX6_sheet_115 rfl ?_
          refine j_iald 116 cx 3 k rfl rfl (by omega) (by decide) dX6_sheet_116 ?_
          refine j_top (nI ((uA (sZ S) k 0) k)) rfl ?_
          refine j_top (nI 0) (congrArg nI (uA_s _ _ _)) ?_
          have ze : (sp_sheet (nI k) b (nI m) S) = (nI 0, stB S (uA (sB S) k b) (uA (sZ S) k 0) (uA (sC S) k (fun _ => 0))) := by unfold sp_sheet; simp [s_in hk, show pN (nI k) = k from nI_clamp (by omega), hb, Int32.not_lt.mpr zc1, Int32.not_lt.mpr zc2, hcm]
          exact fin () _ _ _ _ dX6_sheet_117 rfl (by rw [ze] <;> rfl) (by rw [ze] <;> rfl) trivial
        | succ d ih85 =>
          intro j hj
          refine j_iload 85 cx 0 dX6_sheet_85 rfl ?_
          refine j_bipush 87 cx 40 dX6_sheet_87 (by decide) ?_
          refine j_icmp_ge_F 89 cx 111 dX6_sheet_89 (by decide) (nI_ge (b := 40) (by omega) (by omega)) ?_
          refine j_aload_n 92 cx 4 dX6_sheet_92 rfl ?_
          refine j_get 93 cx 0 15 (T := TX6) (v := .ref ((am 7))) (fun _ h => List.mem_cons_of_mem _ (List.mem_append_right _ (h))) (List.mem_of_getElem? (i := 5) rfl) (ci := 5) rfl (by decide) rfl rfl rfl dX6_sheet_93 ?_
          refine j_bipush 96 cx 40 dX6_sheet_96 (by decide) ?_
          refine j_iload_n 98 cx 3 dX6_sheet_98 rfl ?_
          refine j_imul 99 cx dX6_sheet_99 ?_
          refine j_top (nI (40 * k)) (pk_mul 40 k) ?_
          refine j_iload 100 cx 0 dX6_sheet_100 rfl ?_
          refine j_iadd 102 cx dX6_sheet_102 ?_
          refine j_top (nI (40 * k + j)) (nI_add (40 * k) j) ?_
          refine j_lconst 103 cx 0 dX6_sheet_103 (by decide) ?_
          refine j_last 104 cx 4 (40 * k + j) (wMO o am (sP S) la (nI (sL S)) tk be an va bd ++ ([((am 3), .inl (gI G, 7, .inl (sF S)))] ++ ([((am 5), .inl (gI G, 4, .inl (upd (sB S) k b)))] ++ ([((am 6), .inl (gI G, 4, .inl (zN (uA (sZ S) k 0))))] ++ [((am 7), .inl (gJ G, 160, .inr (.inl (vp_updL (cm (uA (sC S) k (zrF (sC S k) j))) (40 * k + j) 0))))])))) rfl rfl (by omega) (by decide) rfl dX6_sheet_104 ?_
          refine j_ws (wMO o am (sP S) la (nI (sL S)) tk be an va bd ++ ([((am 3), .inl (gI G, 7, .inl (sF S)))] ++ ([((am 5), .inl (gI G, 4, .inl (upd (sB S) k b)))] ++ ([((am 6), .inl (gI G, 4, .inl (zN (uA (sZ S) k 0))))] ++ [((am 7), .inl (gJ G, 160, .inr (.inl (cm (uA (uA (sC S) k (zrF (sC S k) j)) k (vp_updL ((uA (sC S) k (zrF (sC S k) j)) k) j 0))))))])))) (congrArg (fun zf : Nat → Int64 => wMO o am (sP S) la (nI (sL S)) tk be an va bd ++ ([((am 3), .inl (gI G, 7, .inl (sF S)))] ++ ([((am 5), .inl (gI G, 4, .inl (upd (sB S) k b)))] ++ ([((am 6), .inl (gI G, 4, .inl (zN (uA (sZ S) k 0))))] ++ [((am 7), .inl (gJ G, 160, .inr (.inl zf)))])))) (cm_up _ k _ (by omega))) ?_
          refine j_iinc 105 cx [(4, .int (nI (j + 1))), (3, .int (nI m)), (2, .int b), (1, .int (nI k)), (0, .ref o)] 0 (nI (j + 1)) dX6_sheet_105 rfl (iinc1 j) (by decide) rfl ?_
          refine j_goto 108 cx 85 dX6_sheet_108 (by decide) ?_
          have h9 := ih85 (j + 1) (by omega)
          rw [← sh_zr] at h9
          exact h9
      refine j_lv [0, 4, 3, 2, 1] rfl ?_
      refine j_ws (wMO o am (sP S) la (nI (sL S)) tk be an va bd ++ ([((am 3), .inl (gI G, 7, .inl (sF S)))] ++ ([((am 5), .inl (gI G, 4, .inl (upd (sB S) k b)))] ++ ([((am 6), .inl (gI G, 4, .inl (zN (uA (sZ S) k 0))))] ++ [((am 7), .inl (gJ G, 160, .inr (.inl (cm (uA (sC S) k (zrF (sC S k) 0))))))])))) (congrArg (fun zf : Nat → Nat → Int64 => wMO o am (sP S) la (nI (sL S)) tk be an va bd ++ ([((am 3), .inl (gI G, 7, .inl (sF S)))] ++ ([((am 5), .inl (gI G, 4, .inl (upd (sB S) k b)))] ++ ([((am 6), .inl (gI G, 4, .inl (zN (uA (sZ S) k 0))))] ++ [((am 7), .inl (gJ G, 160, .inr (.inl (cm zf))))])))) (sh_z0 (sC S) k)) ?_
      exact L85 40 0 (by omega)
    · skip
      refine j_aload_n 53 cx 0 dX6_sheet_53 rfl ?_
      refine j_ldc 54 cx (v := -1000000001) (List.mem_of_getElem? (i := 1) rfl) dX6_sheet_54 ?_
      refine j_callV_i 56 cx 1 [0, 1] [.int (fcode 0)] (fun _ => wMO o am (sP S) la (nI (sL S)) tk be an va bd ++ ([((am 3), .inl (gI G, 7, .inl (upd (sF S) 0 ((sF S) 0 + 1))))] ++ ([((am 5), .inl (gI G, 4, .inl (sB S)))] ++ ([((am 6), .inl (gI G, 4, .inl (zN (sZ S))))] ++ [((am 7), .inl (gJ G, 160, .inr (.inl (cm (sC S)))))])))) (c_X6_finds (kl K) G o am (sP S) la (nI (sL S)) tk be an va bd (sF S) 0 (by decide)) gX6_sheet_X6_finds rfl rfl rfl ⟨rfl, by decide, by decide, rfl⟩ ⟨Nat.le_of_ble_eq_true rfl, Nat.le_of_ble_eq_true rfl⟩ ⟨Nat.zero_le _, Nat.zero_le _⟩ rfl (by decide) (ci := 5) 0 rfl rfl rfl rfl rfl (Nat.le_of_ble_eq_true rfl) dX6_sheet_56 (fun _ => rfl) (fun zu2 zk2 => ?_)
      refine j_top (fcode 0) rfl ?_
      have ze : (sp_sheet (nI k) b n S) = bad S 0 := by unfold sp_sheet; simp [s_in hk, show pN (nI k) = k from nI_clamp (by omega), hb, Int32.not_lt.mpr zc1, Int32.not_le.mp zc2]
      exact fin () _ _ _ _ dX6_sheet_59 rfl (by rw [ze] <;> rfl) (by rw [ze] <;> rfl) trivial
  · skip
    refine j_aload_n 40 cx 0 dX6_sheet_40 rfl ?_
    refine j_ldc 41 cx (v := -1000000007) (List.mem_of_getElem? (i := 2) rfl) dX6_sheet_41 ?_
    refine j_callV_i 43 cx 1 [0, 1] [.int (fcode 6)] (fun _ => wMO o am (sP S) la (nI (sL S)) tk be an va bd ++ ([((am 3), .inl (gI G, 7, .inl (upd (sF S) 6 ((sF S) 6 + 1))))] ++ ([((am 5), .inl (gI G, 4, .inl (sB S)))] ++ ([((am 6), .inl (gI G, 4, .inl (zN (sZ S))))] ++ [((am 7), .inl (gJ G, 160, .inr (.inl (cm (sC S)))))])))) (c_X6_finds (kl K) G o am (sP S) la (nI (sL S)) tk be an va bd (sF S) 6 (by decide)) gX6_sheet_X6_finds rfl rfl rfl ⟨rfl, by decide, by decide, rfl⟩ ⟨Nat.le_of_ble_eq_true rfl, Nat.le_of_ble_eq_true rfl⟩ ⟨Nat.zero_le _, Nat.zero_le _⟩ rfl (by decide) (ci := 5) 0 rfl rfl rfl rfl rfl (Nat.le_of_ble_eq_true rfl) dX6_sheet_43 (fun _ => rfl) (fun zu3 zk3 => ?_)
    refine j_top (fcode 6) rfl ?_
    have ze : (sp_sheet (nI k) b n S) = bad S 6 := by unfold sp_sheet; simp [s_in hk, show pN (nI k) = k from nI_clamp (by omega), hb, Int32.not_le.mp zc1]
    exact fin () _ _ _ _ dX6_sheet_46 rfl (by rw [ze] <;> rfl) (by rw [ze] <;> rfl) trivial
set_option maxRecDepth 100000 in
set_option maxHeartbeats 4000000 in
theorem c_X6_sheet_t1 (l : Launch) (G : pG) (o : Nat) (am : Nat → Nat) (S : St) (la tk be an va : Int32) (bd : Bool) (k : Nat) (hk : k < 4) (b n : Int32) (hb : ¬ b = 0) : KI l G yX6_sheet wsX6_sheet ({ frames := 2, cells := 0, slots := 0, locals := 43 } : Room) [.ref o, .int (nI k), .int b, .int n] (wMO o am (sP S) la (nI (sL S)) tk be an va bd ++ ([((am 3), .inl (gI G, 7, .inl (sF S)))] ++ ([((am 5), .inl (gI G, 4, .inl (sB S)))] ++ ([((am 6), .inl (gI G, 4, .inl (zN (sZ S))))] ++ [((am 7), .inl (gJ G, 160, .inr (.inl (cm (sC S)))))])))) (S := Unit) (fun _ => True) (fun u => (sp_sheet (nI k) b n S).1) (fun u => wMO o am (sP S) la (nI (sL S)) tk be an va bd ++ ([((am 3), .inl (gI G, 7, .inl (sF (sp_sheet (nI k) b n S).2)))] ++ ([((am 5), .inl (gI G, 4, .inl (sB (sp_sheet (nI k) b n S).2)))] ++ ([((am 6), .inl (gI G, 4, .inl (zN (sZ (sp_sheet (nI k) b n S).2))))] ++ [((am 7), .inl (gJ G, 160, .inr (.inl (cm (sC (sp_sheet (nI k) b n S).2)))))])))) := by
  refine ki_of [(0, .ref o), (1, .int (nI k)), (2, .int b), (3, .int n)] (own := RX6) (cc := cX6_sheet) (nL := 5) (by decide +kernel) rfl rfl (Nat.le_of_ble_eq_true rfl) rfl (fun _ => rfl) (fun K cx fin => ?_)
  refine j_iload_n 0 cx 1 dX6_sheet_0 rfl ?_
  refine j_callS_i 1 cx 1 [] [.int (nI k)] (fun _ => wMO o am (sP S) la (nI (sL S)) tk be an va bd ++ ([((am 3), .inl (gI G, 7, .inl (sF S)))] ++ ([((am 5), .inl (gI G, 4, .inl (sB S)))] ++ ([((am 6), .inl (gI G, 4, .inl (zN (sZ S))))] ++ [((am 7), .inl (gJ G, 160, .inr (.inl (cm (sC S)))))])))) (c_X6_isSheet (kl K) G (nI k)) gX6_sheet_X6_isSheet rfl rfl rfl ⟨by decide, by decide, rfl⟩ ⟨Nat.le_of_ble_eq_true rfl, Nat.le_of_ble_eq_true rfl⟩ ⟨Nat.zero_le _, Nat.zero_le _⟩ rfl (by decide) rfl rfl (Nat.le_of_ble_eq_true rfl) dX6_sheet_1 (fun _ => rfl) (fun zu1 zk1 => ?_)
  refine j_top (bI (inI (nI k) 0 3)) rfl ?_
  refine j_if_eq_F 4 cx 29 dX6_sheet_4 (by decide) (by rw [s_in hk]; decide) ?_
  refine j_iload_n 7 cx 2 dX6_sheet_7 rfl ?_
  refine j_if_eq_F 8 cx 36 dX6_sheet_8 (by decide) hb ?_
  refine j_iload_n 11 cx 2 dX6_sheet_11 rfl ?_
  refine j_bipush 12 cx 8 dX6_sheet_12 (by decide) ?_
  refine j_icmp_eq 14 cx 36 dX6_sheet_14 (by decide) (fun zc1 => ?_) (fun zc1 => ?_)
  · skip
    refine j_iload_n 36 cx 3 dX6_sheet_36 rfl ?_
    refine j_if_ge 37 cx 47 dX6_sheet_37 (by decide) (fun zc2 => ?_) (fun zc2 => ?_)
    · skip
      have zge := zc2
      refine j_iload_n 47 cx 3 dX6_sheet_47 rfl ?_
      refine j_bipush 48 cx 40 dX6_sheet_48 (by decide) ?_
      refine j_icmp_le 50 cx 60 dX6_sheet_50 (by decide) (fun zc3 => ?_) (fun zc3 => ?_)
      · skip
        obtain ⟨m, hm, rfl⟩ := mx_n2 zge zc3
        have hcm : pN (nI m) = m := nI_clamp (by omega)
        refine j_aload_n 60 cx 0 dX6_sheet_60 rfl ?_
        refine j_get 61 cx 0 13 (T := TX6) (v := .ref ((am 5))) (fun _ h => List.mem_cons_of_mem _ (List.mem_append_right _ (h))) (List.mem_of_getElem? (i := 3) rfl) (ci := 5) rfl (by decide) rfl rfl rfl dX6_sheet_61 ?_
        refine j_iload_n 64 cx 1 dX6_sheet_64 rfl ?_
        refine j_iload_n 65 cx 2 dX6_sheet_65 rfl ?_
        refine j_iast 66 cx 2 k (wMO o am (sP S) la (nI (sL S)) tk be an va bd ++ ([((am 3), .inl (gI G, 7, .inl (sF S)))] ++ ([((am 5), .inl (gI G, 4, .inl (upd (sB S) k b)))] ++ ([((am 6), .inl (gI G, 4, .inl (zN (sZ S))))] ++ [((am 7), .inl (gJ G, 160, .inr (.inl (cm (sC S)))))])))) rfl rfl (by omega) (by decide) rfl dX6_sheet_66 ?_
        refine j_aload_n 67 cx 0 dX6_sheet_67 rfl ?_
        refine j_get 68 cx 0 14 (T := TX6) (v := .ref ((am 6))) (fun _ h => List.mem_cons_of_mem _ (List.mem_append_right _ (h))) (List.mem_of_getElem? (i := 4) rfl) (ci := 5) rfl (by decide) rfl rfl rfl dX6_sheet_68 ?_
        refine j_iload_n 71 cx 1 dX6_sheet_71 rfl ?_
        refine j_iload_n 72 cx 2 dX6_sheet_72 rfl ?_
        refine j_if_ne_T 73 cx 80 dX6_sheet_73 (by decide) hb ?_
        refine j_iload_n 80 cx 3 dX6_sheet_80 rfl ?_
        refine j_iast 81 cx 3 k (wMO o am (sP S) la (nI (sL S)) tk be an va bd ++ ([((am 3), .inl (gI G, 7, .inl (sF S)))] ++ ([((am 5), .inl (gI G, 4, .inl (upd (sB S) k b)))] ++ ([((am 6), .inl (gI G, 4, .inl (upd (zN (sZ S)) k (nI m))))] ++ [((am 7), .inl (gJ G, 160, .inr (.inl (cm (sC S)))))])))) rfl rfl (by omega) (by decide) rfl dX6_sheet_81 ?_
        refine j_ws (wMO o am (sP S) la (nI (sL S)) tk be an va bd ++ ([((am 3), .inl (gI G, 7, .inl (sF S)))] ++ ([((am 5), .inl (gI G, 4, .inl (upd (sB S) k b)))] ++ ([((am 6), .inl (gI G, 4, .inl (zN (uA (sZ S) k m))))] ++ [((am 7), .inl (gJ G, 160, .inr (.inl (cm (sC S)))))])))) (congrArg (fun zf : Nat → Int32 => wMO o am (sP S) la (nI (sL S)) tk be an va bd ++ ([((am 3), .inl (gI G, 7, .inl (sF S)))] ++ ([((am 5), .inl (gI G, 4, .inl (upd (sB S) k b)))] ++ ([((am 6), .inl (gI G, 4, .inl zf))] ++ [((am 7), .inl (gJ G, 160, .inr (.inl (cm (sC S)))))])))) (zN_u _ k m)) ?_
        refine j_iconst 82 cx 0 dX6_sheet_82 (by decide) ?_
        refine j_istore 83 cx [(4, .int 0), (0, .ref o), (1, .int (nI k)), (2, .int b), (3, .int (nI m))] dX6_sheet_83 (by decide) rfl ?_
        have L85 : ∀ d : Nat, ∀ (j : Nat), (j + d = 40) → JJ G K 0 0 (wMO o am (sP S) la (nI (sL S)) tk be an va bd ++ ([((am 3), .inl (gI G, 7, .inl (sF S)))] ++ ([((am 5), .inl (gI G, 4, .inl (upd (sB S) k b)))] ++ ([((am 6), .inl (gI G, 4, .inl (zN (uA (sZ S) k m))))] ++ [((am 7), .inl (gJ G, 160, .inr (.inl (cm (uA (sC S) k (zrF (sC S k) j))))))])))) [(4, .int (nI j)), (3, .int (nI m)), (2, .int b), (1, .int (nI k)), (0, .ref o)] 85 [] := by
          intro d
          induction d with
          | zero =>
            intro j hj
            refine j_iload 85 cx 0 dX6_sheet_85 rfl ?_
            refine j_bipush 87 cx 40 dX6_sheet_87 (by decide) ?_
            refine j_icmp_ge_T 89 cx 111 dX6_sheet_89 (by decide) (nI_le (a := 40) (by omega) (by omega)) ?_
            refine j_ws (wMO o am (sP S) la (nI (sL S)) tk be an va bd ++ ([((am 3), .inl (gI G, 7, .inl (sF S)))] ++ ([((am 5), .inl (gI G, 4, .inl (upd (sB S) k b)))] ++ ([((am 6), .inl (gI G, 4, .inl (zN (uA (sZ S) k m))))] ++ [((am 7), .inl (gJ G, 160, .inr (.inl (cm (uA (sC S) k (fun _ => 0))))))])))) (congrArg (fun zf : Nat → Int64 => wMO o am (sP S) la (nI (sL S)) tk be an va bd ++ ([((am 3), .inl (gI G, 7, .inl (sF S)))] ++ ([((am 5), .inl (gI G, 4, .inl (upd (sB S) k b)))] ++ ([((am 6), .inl (gI G, 4, .inl (zN (uA (sZ S) k m))))] ++ [((am 7), .inl (gJ G, 160, .inr (.inl zf)))])))) (cm_cg _ _ (fun i hi => zrF_in (by omega)))) ?_
            refine j_aload_n 111 cx 4 dX6_sheet_111 rfl ?_
            refine j_get 112 cx 0 14 (T := TX6) (v := .ref ((am 6))) (fun _ h => List.mem_cons_of_mem _ (List.mem_append_right _ (h))) (List.mem_of_getElem? (i := 4) rfl) (ci := 5) rfl (by decide) rfl rfl rfl dX6_sheet_112 ?_
            refine j_iload_n 115 cx 3 dX6_sheet_115 rfl ?_
            refine j_iald 116 cx 3 k rfl rfl (by omega) (by decide) dX6_sheet_116 ?_
            refine j_top (nI ((uA (sZ S) k m) k)) rfl ?_
            refine j_top (nI m) (congrArg nI (uA_s _ _ _)) ?_
            have ze : (sp_sheet (nI k) b (nI m) S) = (nI m, stB S (uA (sB S) k b) (uA (sZ S) k m) (uA (sC S) k (fun _ => 0))) := by unfold sp_sheet; simp [s_in hk, show pN (nI k) = k from nI_clamp (by omega), hb, zc1, Int32.not_lt.mpr zc2, Int32.not_lt.mpr zc3, hcm]
            exact fin () _ _ _ _ dX6_sheet_117 rfl (by rw [ze] <;> rfl) (by rw [ze] <;> rfl) trivial
          | succ d ih85 =>
            intro j hj
            refine j_iload 85 cx 0 dX6_sheet_85 rfl ?_
            refine j_bipush 87 cx 40 dX6_sheet_87 (by decide) ?_
            refine j_icmp_ge_F 89 cx 111 dX6_sheet_89 (by decide) (nI_ge (b := 40) (by omega) (by omega)) ?_
            refine j_aload_n 92 cx 4 dX6_sheet_92 rfl ?_
            refine j_get 93 cx 0 15 (T := TX6) (v := .ref ((am 7))) (fun _ h => List.mem_cons_of_mem _ (List.mem_append_right _ (h))) (List.mem_of_getElem? (i := 5) rfl) (ci := 5) rfl (by decide) rfl rfl rfl dX6_sheet_93 ?_
            refine j_bipush 96 cx 40 dX6_sheet_96 (by decide) ?_
            refine j_iload_n 98 cx 3 dX6_sheet_98 rfl ?_
            refine j_imul 99 cx dX6_sheet_99 ?_
            refine j_top (nI (40 * k)) (pk_mul 40 k) ?_
            refine j_iload 100 cx 0 dX6_sheet_100 rfl ?_
            refine j_iadd 102 cx dX6_sheet_102 ?_
            refine j_top (nI (40 * k + j)) (nI_add (40 * k) j) ?_
            refine j_lconst 103 cx 0 dX6_sheet_103 (by decide) ?_
            refine j_last 104 cx 4 (40 * k + j) (wMO o am (sP S) la (nI (sL S)) tk be an va bd ++ ([((am 3), .inl (gI G, 7, .inl (sF S)))] ++ ([((am 5), .inl (gI G, 4, .inl (upd (sB S) k b)))] ++ ([((am 6), .inl (gI G, 4, .inl (zN (uA (sZ S) k m))))] ++ [((am 7), .inl (gJ G, 160, .inr (.inl (vp_updL (cm (uA (sC S) k (zrF (sC S k) j))) (40 * k + j) 0))))])))) rfl rfl (by omega) (by decide) rfl dX6_sheet_104 ?_
            refine j_ws (wMO o am (sP S) la (nI (sL S)) tk be an va bd ++ ([((am 3), .inl (gI G, 7, .inl (sF S)))] ++ ([((am 5), .inl (gI G, 4, .inl (upd (sB S) k b)))] ++ ([((am 6), .inl (gI G, 4, .inl (zN (uA (sZ S) k m))))] ++ [((am 7), .inl (gJ G, 160, .inr (.inl (cm (uA (uA (sC S) k (zrF (sC S k) j)) k (vp_updL ((uA (sC S) k (zrF (sC S k) j)) k) j 0))))))])))) (congrArg (fun zf : Nat → Int64 => wMO o am (sP S) la (nI (sL S)) tk be an va bd ++ ([((am 3), .inl (gI G, 7, .inl (sF S)))] ++ ([((am 5), .inl (gI G, 4, .inl (upd (sB S) k b)))] ++ ([((am 6), .inl (gI G, 4, .inl (zN (uA (sZ S) k m))))] ++ [((am 7), .inl (gJ G, 160, .inr (.inl zf)))])))) (cm_up _ k _ (by omega))) ?_
            refine j_iinc 105 cx [(4, .int (nI (j + 1))), (3, .int (nI m)), (2, .int b), (1, .int (nI k)), (0, .ref o)] 0 (nI (j + 1)) dX6_sheet_105 rfl (iinc1 j) (by decide) rfl ?_
            refine j_goto 108 cx 85 dX6_sheet_108 (by decide) ?_
            have h9 := ih85 (j + 1) (by omega)
            rw [← sh_zr] at h9
            exact h9
        refine j_lv [0, 4, 3, 2, 1] rfl ?_
        refine j_ws (wMO o am (sP S) la (nI (sL S)) tk be an va bd ++ ([((am 3), .inl (gI G, 7, .inl (sF S)))] ++ ([((am 5), .inl (gI G, 4, .inl (upd (sB S) k b)))] ++ ([((am 6), .inl (gI G, 4, .inl (zN (uA (sZ S) k m))))] ++ [((am 7), .inl (gJ G, 160, .inr (.inl (cm (uA (sC S) k (zrF (sC S k) 0))))))])))) (congrArg (fun zf : Nat → Nat → Int64 => wMO o am (sP S) la (nI (sL S)) tk be an va bd ++ ([((am 3), .inl (gI G, 7, .inl (sF S)))] ++ ([((am 5), .inl (gI G, 4, .inl (upd (sB S) k b)))] ++ ([((am 6), .inl (gI G, 4, .inl (zN (uA (sZ S) k m))))] ++ [((am 7), .inl (gJ G, 160, .inr (.inl (cm zf))))])))) (sh_z0 (sC S) k)) ?_
        exact L85 40 0 (by omega)
      · skip
        refine j_aload_n 53 cx 0 dX6_sheet_53 rfl ?_
        refine j_ldc 54 cx (v := -1000000001) (List.mem_of_getElem? (i := 1) rfl) dX6_sheet_54 ?_
        refine j_callV_i 56 cx 1 [0, 1] [.int (fcode 0)] (fun _ => wMO o am (sP S) la (nI (sL S)) tk be an va bd ++ ([((am 3), .inl (gI G, 7, .inl (upd (sF S) 0 ((sF S) 0 + 1))))] ++ ([((am 5), .inl (gI G, 4, .inl (sB S)))] ++ ([((am 6), .inl (gI G, 4, .inl (zN (sZ S))))] ++ [((am 7), .inl (gJ G, 160, .inr (.inl (cm (sC S)))))])))) (c_X6_finds (kl K) G o am (sP S) la (nI (sL S)) tk be an va bd (sF S) 0 (by decide)) gX6_sheet_X6_finds rfl rfl rfl ⟨rfl, by decide, by decide, rfl⟩ ⟨Nat.le_of_ble_eq_true rfl, Nat.le_of_ble_eq_true rfl⟩ ⟨Nat.zero_le _, Nat.zero_le _⟩ rfl (by decide) (ci := 5) 0 rfl rfl rfl rfl rfl (Nat.le_of_ble_eq_true rfl) dX6_sheet_56 (fun _ => rfl) (fun zu2 zk2 => ?_)
        refine j_top (fcode 0) rfl ?_
        have ze : (sp_sheet (nI k) b n S) = bad S 0 := by unfold sp_sheet; simp [s_in hk, show pN (nI k) = k from nI_clamp (by omega), hb, zc1, Int32.not_lt.mpr zc2, Int32.not_le.mp zc3]
        exact fin () _ _ _ _ dX6_sheet_59 rfl (by rw [ze] <;> rfl) (by rw [ze] <;> rfl) trivial
    · skip
      refine j_aload_n 40 cx 0 dX6_sheet_40 rfl ?_
      refine j_ldc 41 cx (v := -1000000007) (List.mem_of_getElem? (i := 2) rfl) dX6_sheet_41 ?_
      refine j_callV_i 43 cx 1 [0, 1] [.int (fcode 6)] (fun _ => wMO o am (sP S) la (nI (sL S)) tk be an va bd ++ ([((am 3), .inl (gI G, 7, .inl (upd (sF S) 6 ((sF S) 6 + 1))))] ++ ([((am 5), .inl (gI G, 4, .inl (sB S)))] ++ ([((am 6), .inl (gI G, 4, .inl (zN (sZ S))))] ++ [((am 7), .inl (gJ G, 160, .inr (.inl (cm (sC S)))))])))) (c_X6_finds (kl K) G o am (sP S) la (nI (sL S)) tk be an va bd (sF S) 6 (by decide)) gX6_sheet_X6_finds rfl rfl rfl ⟨rfl, by decide, by decide, rfl⟩ ⟨Nat.le_of_ble_eq_true rfl, Nat.le_of_ble_eq_true rfl⟩ ⟨Nat.zero_le _, Nat.zero_le _⟩ rfl (by decide) (ci := 5) 0 rfl rfl rfl rfl rfl (Nat.le_of_ble_eq_true rfl) dX6_sheet_43 (fun _ => rfl) (fun zu3 zk3 => ?_)
      refine j_top (fcode 6) rfl ?_
      have ze : (sp_sheet (nI k) b n S) = bad S 6 := by unfold sp_sheet; simp [s_in hk, show pN (nI k) = k from nI_clamp (by omega), hb, zc1, Int32.not_le.mp zc2]
      exact fin () _ _ _ _ dX6_sheet_46 rfl (by rw [ze] <;> rfl) (by rw [ze] <;> rfl) trivial
  · skip
    refine j_iload_n 17 cx 2 dX6_sheet_17 rfl ?_
    refine j_bipush 18 cx 16 dX6_sheet_18 (by decide) ?_
    refine j_icmp_eq 20 cx 36 dX6_sheet_20 (by decide) (fun zc4 => ?_) (fun zc4 => ?_)
    · skip
      refine j_iload_n 36 cx 3 dX6_sheet_36 rfl ?_
      refine j_if_ge 37 cx 47 dX6_sheet_37 (by decide) (fun zc5 => ?_) (fun zc5 => ?_)
      · skip
        have zge := zc5
        refine j_iload_n 47 cx 3 dX6_sheet_47 rfl ?_
        refine j_bipush 48 cx 40 dX6_sheet_48 (by decide) ?_
        refine j_icmp_le 50 cx 60 dX6_sheet_50 (by decide) (fun zc6 => ?_) (fun zc6 => ?_)
        · skip
          obtain ⟨m, hm, rfl⟩ := mx_n2 zge zc6
          have hcm : pN (nI m) = m := nI_clamp (by omega)
          refine j_aload_n 60 cx 0 dX6_sheet_60 rfl ?_
          refine j_get 61 cx 0 13 (T := TX6) (v := .ref ((am 5))) (fun _ h => List.mem_cons_of_mem _ (List.mem_append_right _ (h))) (List.mem_of_getElem? (i := 3) rfl) (ci := 5) rfl (by decide) rfl rfl rfl dX6_sheet_61 ?_
          refine j_iload_n 64 cx 1 dX6_sheet_64 rfl ?_
          refine j_iload_n 65 cx 2 dX6_sheet_65 rfl ?_
          refine j_iast 66 cx 2 k (wMO o am (sP S) la (nI (sL S)) tk be an va bd ++ ([((am 3), .inl (gI G, 7, .inl (sF S)))] ++ ([((am 5), .inl (gI G, 4, .inl (upd (sB S) k b)))] ++ ([((am 6), .inl (gI G, 4, .inl (zN (sZ S))))] ++ [((am 7), .inl (gJ G, 160, .inr (.inl (cm (sC S)))))])))) rfl rfl (by omega) (by decide) rfl dX6_sheet_66 ?_
          refine j_aload_n 67 cx 0 dX6_sheet_67 rfl ?_
          refine j_get 68 cx 0 14 (T := TX6) (v := .ref ((am 6))) (fun _ h => List.mem_cons_of_mem _ (List.mem_append_right _ (h))) (List.mem_of_getElem? (i := 4) rfl) (ci := 5) rfl (by decide) rfl rfl rfl dX6_sheet_68 ?_
          refine j_iload_n 71 cx 1 dX6_sheet_71 rfl ?_
          refine j_iload_n 72 cx 2 dX6_sheet_72 rfl ?_
          refine j_if_ne_T 73 cx 80 dX6_sheet_73 (by decide) hb ?_
          refine j_iload_n 80 cx 3 dX6_sheet_80 rfl ?_
          refine j_iast 81 cx 3 k (wMO o am (sP S) la (nI (sL S)) tk be an va bd ++ ([((am 3), .inl (gI G, 7, .inl (sF S)))] ++ ([((am 5), .inl (gI G, 4, .inl (upd (sB S) k b)))] ++ ([((am 6), .inl (gI G, 4, .inl (upd (zN (sZ S)) k (nI m))))] ++ [((am 7), .inl (gJ G, 160, .inr (.inl (cm (sC S)))))])))) rfl rfl (by omega) (by decide) rfl dX6_sheet_81 ?_
          refine j_ws (wMO o am (sP S) la (nI (sL S)) tk be an va bd ++ ([((am 3), .inl (gI G, 7, .inl (sF S)))] ++ ([((am 5), .inl (gI G, 4, .inl (upd (sB S) k b)))] ++ ([((am 6), .inl (gI G, 4, .inl (zN (uA (sZ S) k m))))] ++ [((am 7), .inl (gJ G, 160, .inr (.inl (cm (sC S)))))])))) (congrArg (fun zf : Nat → Int32 => wMO o am (sP S) la (nI (sL S)) tk be an va bd ++ ([((am 3), .inl (gI G, 7, .inl (sF S)))] ++ ([((am 5), .inl (gI G, 4, .inl (upd (sB S) k b)))] ++ ([((am 6), .inl (gI G, 4, .inl zf))] ++ [((am 7), .inl (gJ G, 160, .inr (.inl (cm (sC S)))))])))) (zN_u _ k m)) ?_
          refine j_iconst 82 cx 0 dX6_sheet_82 (by decide) ?_
          refine j_istore 83 cx [(4, .int 0), (0, .ref o), (1, .int (nI k)), (2, .int b), (3, .int (nI m))] dX6_sheet_83 (by decide) rfl ?_
          have L85 : ∀ d : Nat, ∀ (j : Nat), (j + d = 40) → JJ G K 0 0 (wMO o am (sP S) la (nI (sL S)) tk be an va bd ++ ([((am 3), .inl (gI G, 7, .inl (sF S)))] ++ ([((am 5), .inl (gI G, 4, .inl (upd (sB S) k b)))] ++ ([((am 6), .inl (gI G, 4, .inl (zN (uA (sZ S) k m))))] ++ [((am 7), .inl (gJ G, 160, .inr (.inl (cm (uA (sC S) k (zrF (sC S k) j))))))])))) [(4, .int (nI j)), (3, .int (nI m)), (2, .int b), (1, .int (nI k)), (0, .ref o)] 85 [] := by
            intro d
            induction d with
            | zero =>
              intro j hj
              refine j_iload 85 cx 0 dX6_sheet_85 rfl ?_
              refine j_bipush 87 cx 40 dX6_sheet_87 (by decide) ?_
              refine j_icmp_ge_T 89 cx 111 dX6_sheet_89 (by decide) (nI_le (a := 40) (by omega) (by omega)) ?_
              refine j_ws (wMO o am (sP S) la (nI (sL S)) tk be an va bd ++ ([((am 3), .inl (gI G, 7, .inl (sF S)))] ++ ([((am 5), .inl (gI G, 4, .inl (upd (sB S) k b)))] ++ ([((am 6), .inl (gI G, 4, .inl (zN (uA (sZ S) k m))))] ++ [((am 7), .inl (gJ G, 160, .inr (.inl (cm (uA (sC S) k (fun _ => 0))))))])))) (congrArg (fun zf : Nat → Int64 => wMO o am (sP S) la (nI (sL S)) tk be an va bd ++ ([((am 3), .inl (gI G, 7, .inl (sF S)))] ++ ([((am 5), .inl (gI G, 4, .inl (upd (sB S) k b)))] ++ ([((am 6), .inl (gI G, 4, .inl (zN (uA (sZ S) k m))))] ++ [((am 7), .inl (gJ G, 160, .inr (.inl zf)))])))) (cm_cg _ _ (fun i hi => zrF_in (by omega)))) ?_
              refine j_aload_n 111 cx 4 dX6_sheet_111 rfl ?_
              refine j_get 112 cx 0 14 (T := TX6) (v := .ref ((am 6))) (fun _ h => List.mem_cons_of_mem _ (List.mem_append_right _ (h))) (List.mem_of_getElem? (i := 4) rfl) (ci := 5) rfl (by decide) rfl rfl rfl dX6_sheet_112 ?_
              refine j_iload_n 115 cx 3 dX6_sheet_115 rfl ?_
              refine j_iald 116 cx 3 k rfl rfl (by omega) (by decide) dX6_sheet_116 ?_
              refine j_top (nI ((uA (sZ S) k m) k)) rfl ?_
              refine j_top (nI m) (congrArg nI (uA_s _ _ _)) ?_
              have ze : (sp_sheet (nI k) b (nI m) S) = (nI m, stB S (uA (sB S) k b) (uA (sZ S) k m) (uA (sC S) k (fun _ => 0))) := by unfold sp_sheet; simp [s_in hk, show pN (nI k) = k from nI_clamp (by omega), hb, zc1, zc4, Int32.not_lt.mpr zc5, Int32.not_lt.mpr zc6, hcm]
              exact fin () _ _ _ _ dX6_sheet_117 rfl (by rw [ze] <;> rfl) (by rw [ze] <;> rfl) trivial
            | succ d ih85 =>
              intro j hj
              refine j_iload 85 cx 0 dX6_sheet_85 rfl ?_
              refine j_bipush 87 cx 40 dX6_sheet_87 (by decide) ?_
              refine j_icmp_ge_F 89 cx 111 dX6_sheet_89 (by decide) (nI_ge (b := 40) (by omega) (by omega)) ?_
              refine j_aload_n 92 cx 4 dX6_sheet_92 rfl ?_
              refine j_get 93 cx 0 15 (T := TX6) (v := .ref ((am 7))) (fun _ h => List.mem_cons_of_mem _ (List.mem_append_right _ (h))) (List.mem_of_getElem? (i := 5) rfl) (ci := 5) rfl (by decide) rfl rfl rfl dX6_sheet_93 ?_
              refine j_bipush 96 cx 40 dX6_sheet_96 (by decide) ?_
              refine j_iload_n 98 cx 3 dX6_sheet_98 rfl ?_
              refine j_imul 99 cx dX6_sheet_99 ?_
              refine j_top (nI (40 * k)) (pk_mul 40 k) ?_
              refine j_iload 100 cx 0 dX6_sheet_100 rfl ?_
              refine j_iadd 102 cx dX6_sheet_102 ?_
              refine j_top (nI (40 * k + j)) (nI_add (40 * k) j) ?_
              refine j_lconst 103 cx 0 dX6_sheet_103 (by decide) ?_
              refine j_last 104 cx 4 (40 * k + j) (wMO o am (sP S) la (nI (sL S)) tk be an va bd ++ ([((am 3), .inl (gI G, 7, .inl (sF S)))] ++ ([((am 5), .inl (gI G, 4, .inl (upd (sB S) k b)))] ++ ([((am 6), .inl (gI G, 4, .inl (zN (uA (sZ S) k m))))] ++ [((am 7), .inl (gJ G, 160, .inr (.inl (vp_updL (cm (uA (sC S) k (zrF (sC S k) j))) (40 * k + j) 0))))])))) rfl rfl (by omega) (by decide) rfl dX6_sheet_104 ?_
              refine j_ws (wMO o am (sP S) la (nI (sL S)) tk be an va bd ++ ([((am 3), .inl (gI G, 7, .inl (sF S)))] ++ ([((am 5), .inl (gI G, 4, .inl (upd (sB S) k b)))] ++ ([((am 6), .inl (gI G, 4, .inl (zN (uA (sZ S) k m))))] ++ [((am 7), .inl (gJ G, 160, .inr (.inl (cm (uA (uA (sC S) k (zrF (sC S k) j)) k (vp_updL ((uA (sC S) k (zrF (sC S k) j)) k) j 0))))))])))) (congrArg (fun zf : Nat → Int64 => wMO o am (sP S) la (nI (sL S)) tk be an va bd ++ ([((am 3), .inl (gI G, 7, .inl (sF S)))] ++ ([((am 5), .inl (gI G, 4, .inl (upd (sB S) k b)))] ++ ([((am 6), .inl (gI G, 4, .inl (zN (uA (sZ S) k m))))] ++ [((am 7), .inl (gJ G, 160, .inr (.inl zf)))])))) (cm_up _ k _ (by omega))) ?_
              refine j_iinc 105 cx [(4, .int (nI (j + 1))), (3, .int (nI m)), (2, .int b), (1, .int (nI k)), (0, .ref o)] 0 (nI (j + 1)) dX6_sheet_105 rfl (iinc1 j) (by decide) rfl ?_
              refine j_goto 108 cx 85 dX6_sheet_108 (by decide) ?_
              have h9 := ih85 (j + 1) (by omega)
              rw [← sh_zr] at h9
              exact h9
          refine j_lv [0, 4, 3, 2, 1] rfl ?_
          refine j_ws (wMO o am (sP S) la (nI (sL S)) tk be an va bd ++ ([((am 3), .inl (gI G, 7, .inl (sF S)))] ++ ([((am 5), .inl (gI G, 4, .inl (upd (sB S) k b)))] ++ ([((am 6), .inl (gI G, 4, .inl (zN (uA (sZ S) k m))))] ++ [((am 7), .inl (gJ G, 160, .inr (.inl (cm (uA (sC S) k (zrF (sC S k) 0))))))])))) (congrArg (fun zf : Nat → Nat → Int64 => wMO o am (sP S) la (nI (sL S)) tk be an va bd ++ ([((am 3), .inl (gI G, 7, .inl (sF S)))] ++ ([((am 5), .inl (gI G, 4, .inl (upd (sB S) k b)))] ++ ([((am 6), .inl (gI G, 4, .inl (zN (uA (sZ S) k m))))] ++ [((am 7), .inl (gJ G, 160, .inr (.inl (cm zf))))])))) (sh_z0 (sC S) k)) ?_
          exact L85 40 0 (by omega)
        · skip
          refine j_aload_n 53 cx 0 dX6_sheet_53 rfl ?_
          refine j_ldc 54 cx (v := -1000000001) (List.mem_of_getElem? (i := 1) rfl) dX6_sheet_54 ?_
          refine j_callV_i 56 cx 1 [0, 1] [.int (fcode 0)] (fun _ => wMO o am (sP S) la (nI (sL S)) tk be an va bd ++ ([((am 3), .inl (gI G, 7, .inl (upd (sF S) 0 ((sF S) 0 + 1))))] ++ ([((am 5), .inl (gI G, 4, .inl (sB S)))] ++ ([((am 6), .inl (gI G, 4, .inl (zN (sZ S))))] ++ [((am 7), .inl (gJ G, 160, .inr (.inl (cm (sC S)))))])))) (c_X6_finds (kl K) G o am (sP S) la (nI (sL S)) tk be an va bd (sF S) 0 (by decide)) gX6_sheet_X6_finds rfl rfl rfl ⟨rfl, by decide, by decide, rfl⟩ ⟨Nat.le_of_ble_eq_true rfl, Nat.le_of_ble_eq_true rfl⟩ ⟨Nat.zero_le _, Nat.zero_le _⟩ rfl (by decide) (ci := 5) 0 rfl rfl rfl rfl rfl (Nat.le_of_ble_eq_true rfl) dX6_sheet_56 (fun _ => rfl) (fun zu4 zk4 => ?_)
          refine j_top (fcode 0) rfl ?_
          have ze : (sp_sheet (nI k) b n S) = bad S 0 := by unfold sp_sheet; simp [s_in hk, show pN (nI k) = k from nI_clamp (by omega), hb, zc1, zc4, Int32.not_lt.mpr zc5, Int32.not_le.mp zc6]
          exact fin () _ _ _ _ dX6_sheet_59 rfl (by rw [ze] <;> rfl) (by rw [ze] <;> rfl) trivial
      · skip
        refine j_aload_n 40 cx 0 dX6_sheet_40 rfl ?_
        refine j_ldc 41 cx (v := -1000000007) (List.mem_of_getElem? (i := 2) rfl) dX6_sheet_41 ?_
        refine j_callV_i 43 cx 1 [0, 1] [.int (fcode 6)] (fun _ => wMO o am (sP S) la (nI (sL S)) tk be an va bd ++ ([((am 3), .inl (gI G, 7, .inl (upd (sF S) 6 ((sF S) 6 + 1))))] ++ ([((am 5), .inl (gI G, 4, .inl (sB S)))] ++ ([((am 6), .inl (gI G, 4, .inl (zN (sZ S))))] ++ [((am 7), .inl (gJ G, 160, .inr (.inl (cm (sC S)))))])))) (c_X6_finds (kl K) G o am (sP S) la (nI (sL S)) tk be an va bd (sF S) 6 (by decide)) gX6_sheet_X6_finds rfl rfl rfl ⟨rfl, by decide, by decide, rfl⟩ ⟨Nat.le_of_ble_eq_true rfl, Nat.le_of_ble_eq_true rfl⟩ ⟨Nat.zero_le _, Nat.zero_le _⟩ rfl (by decide) (ci := 5) 0 rfl rfl rfl rfl rfl (Nat.le_of_ble_eq_true rfl) dX6_sheet_43 (fun _ => rfl) (fun zu5 zk5 => ?_)
        refine j_top (fcode 6) rfl ?_
        have ze : (sp_sheet (nI k) b n S) = bad S 6 := by unfold sp_sheet; simp [s_in hk, show pN (nI k) = k from nI_clamp (by omega), hb, zc1, zc4, Int32.not_le.mp zc5]
        exact fin () _ _ _ _ dX6_sheet_46 rfl (by rw [ze] <;> rfl) (by rw [ze] <;> rfl) trivial
    · skip
      refine j_iload_n 23 cx 2 dX6_sheet_23 rfl ?_
      refine j_bipush 24 cx 64 dX6_sheet_24 (by decide) ?_
      refine j_icmp_eq 26 cx 36 dX6_sheet_26 (by decide) (fun zc7 => ?_) (fun zc7 => ?_)
      · skip
        refine j_iload_n 36 cx 3 dX6_sheet_36 rfl ?_
        refine j_if_ge 37 cx 47 dX6_sheet_37 (by decide) (fun zc8 => ?_) (fun zc8 => ?_)
        · skip
          have zge := zc8
          refine j_iload_n 47 cx 3 dX6_sheet_47 rfl ?_
          refine j_bipush 48 cx 40 dX6_sheet_48 (by decide) ?_
          refine j_icmp_le 50 cx 60 dX6_sheet_50 (by decide) (fun zc9 => ?_) (fun zc9 => ?_)
          · skip
            obtain ⟨m, hm, rfl⟩ := mx_n2 zge zc9
            have hcm : pN (nI m) = m := nI_clamp (by omega)
            refine j_aload_n 60 cx 0 dX6_sheet_60 rfl ?_
            refine j_get 61 cx 0 13 (T := TX6) (v := .ref ((am 5))) (fun _ h => List.mem_cons_of_mem _ (List.mem_append_right _ (h))) (List.mem_of_getElem? (i := 3) rfl) (ci := 5) rfl (by decide) rfl rfl rfl dX6_sheet_61 ?_
            refine j_iload_n 64 cx 1 dX6_sheet_64 rfl ?_
            refine j_iload_n 65 cx 2 dX6_sheet_65 rfl ?_
            refine j_iast 66 cx 2 k (wMO o am (sP S) la (nI (sL S)) tk be an va bd ++ ([((am 3), .inl (gI G, 7, .inl (sF S)))] ++ ([((am 5), .inl (gI G, 4, .inl (upd (sB S) k b)))] ++ ([((am 6), .inl (gI G, 4, .inl (zN (sZ S))))] ++ [((am 7), .inl (gJ G, 160, .inr (.inl (cm (sC S)))))])))) rfl rfl (by omega) (by decide) rfl dX6_sheet_66 ?_
            refine j_aload_n 67 cx 0 dX6_sheet_67 rfl ?_
            refine j_get 68 cx 0 14 (T := TX6) (v := .ref ((am 6))) (fun _ h => List.mem_cons_of_mem _ (List.mem_append_right _ (h))) (List.mem_of_getElem? (i := 4) rfl) (ci := 5) rfl (by decide) rfl rfl rfl dX6_sheet_68 ?_
            refine j_iload_n 71 cx 1 dX6_sheet_71 rfl ?_
            refine j_iload_n 72 cx 2 dX6_sheet_72 rfl ?_
            refine j_if_ne_T 73 cx 80 dX6_sheet_73 (by decide) hb ?_
            refine j_iload_n 80 cx 3 dX6_sheet_80 rfl ?_
            refine j_iast 81 cx 3 k (wMO o am (sP S) la (nI (sL S)) tk be an va bd ++ ([((am 3), .inl (gI G, 7, .inl (sF S)))] ++ ([((am 5), .inl (gI G, 4, .inl (upd (sB S) k b)))] ++ ([((am 6), .inl (gI G, 4, .inl (upd (zN (sZ S)) k (nI m))))] ++ [((am 7), .inl (gJ G, 160, .inr (.inl (cm (sC S)))))])))) rfl rfl (by omega) (by decide) rfl dX6_sheet_81 ?_
            refine j_ws (wMO o am (sP S) la (nI (sL S)) tk be an va bd ++ ([((am 3), .inl (gI G, 7, .inl (sF S)))] ++ ([((am 5), .inl (gI G, 4, .inl (upd (sB S) k b)))] ++ ([((am 6), .inl (gI G, 4, .inl (zN (uA (sZ S) k m))))] ++ [((am 7), .inl (gJ G, 160, .inr (.inl (cm (sC S)))))])))) (congrArg (fun zf : Nat → Int32 => wMO o am (sP S) la (nI (sL S)) tk be an va bd ++ ([((am 3), .inl (gI G, 7, .inl (sF S)))] ++ ([((am 5), .inl (gI G, 4, .inl (upd (sB S) k b)))] ++ ([((am 6), .inl (gI G, 4, .inl zf))] ++ [((am 7), .inl (gJ G, 160, .inr (.inl (cm (sC S)))))])))) (zN_u _ k m)) ?_
            refine j_iconst 82 cx 0 dX6_sheet_82 (by decide) ?_
            refine j_istore 83 cx [(4, .int 0), (0, .ref o), (1, .int (nI k)), (2, .int b), (3, .int (nI m))] dX6_sheet_83 (by decide) rfl ?_
            have L85 : ∀ d : Nat, ∀ (j : Nat), (j + d = 40) → JJ G K 0 0 (wMO o am (sP S) la (nI (sL S)) tk be an va bd ++ ([((am 3), .inl (gI G, 7, .inl (sF S)))] ++ ([((am 5), .inl (gI G, 4, .inl (upd (sB S) k b)))] ++ ([((am 6), .inl (gI G, 4, .inl (zN (uA (sZ S) k m))))] ++ [((am 7), .inl (gJ G, 160, .inr (.inl (cm (uA (sC S) k (zrF (sC S k) j))))))])))) [(4, .int (nI j)), (3, .int (nI m)), (2, .int b), (1, .int (nI k)), (0, .ref o)] 85 [] := by
              intro d
              induction d with
              | zero =>
                intro j hj
                refine j_iload 85 cx 0 dX6_sheet_85 rfl ?_
                refine j_bipush 87 cx 40 dX6_sheet_87 (by decide) ?_
                refine j_icmp_ge_T 89 cx 111 dX6_sheet_89 (by decide) (nI_le (a := 40) (by omega) (by omega)) ?_
                refine j_ws (wMO o am (sP S) la (nI (sL S)) tk be an va bd ++ ([((am 3), .inl (gI G, 7, .inl (sF S)))] ++ ([((am 5), .inl (gI G, 4, .inl (upd (sB S) k b)))] ++ ([((am 6), .inl (gI G, 4, .inl (zN (uA (sZ S) k m))))] ++ [((am 7), .inl (gJ G, 160, .inr (.inl (cm (uA (sC S) k (fun _ => 0))))))])))) (congrArg (fun zf : Nat → Int64 => wMO o am (sP S) la (nI (sL S)) tk be an va bd ++ ([((am 3), .inl (gI G, 7, .inl (sF S)))] ++ ([((am 5), .inl (gI G, 4, .inl (upd (sB S) k b)))] ++ ([((am 6), .inl (gI G, 4, .inl (zN (uA (sZ S) k m))))] ++ [((am 7), .inl (gJ G, 160, .inr (.inl zf)))])))) (cm_cg _ _ (fun i hi => zrF_in (by omega)))) ?_
                refine j_aload_n 111 cx 4 dX6_sheet_111 rfl ?_
                refine j_get 112 cx 0 14 (T := TX6) (v := .ref ((am 6))) (fun _ h => List.mem_cons_of_mem _ (List.mem_append_right _ (h))) (List.mem_of_getElem? (i := 4) rfl) (ci := 5) rfl (by decide) rfl rfl rfl dX6_sheet_112 ?_
                refine j_iload_n 115 cx 3 dX6_sheet_115 rfl ?_
                refine j_iald 116 cx 3 k rfl rfl (by omega) (by decide) dX6_sheet_116 ?_
                refine j_top (nI ((uA (sZ S) k m) k)) rfl ?_
                refine j_top (nI m) (congrArg nI (uA_s _ _ _)) ?_
                have ze : (sp_sheet (nI k) b (nI m) S) = (nI m, stB S (uA (sB S) k b) (uA (sZ S) k m) (uA (sC S) k (fun _ => 0))) := by unfold sp_sheet; simp [s_in hk, show pN (nI k) = k from nI_clamp (by omega), hb, zc1, zc4, zc7, Int32.not_lt.mpr zc8, Int32.not_lt.mpr zc9, hcm]
                exact fin () _ _ _ _ dX6_sheet_117 rfl (by rw [ze] <;> rfl) (by rw [ze] <;> rfl) trivial
              | succ d ih85 =>
                intro j hj
                refine j_iload 85 cx 0 dX6_sheet_85 rfl ?_
                refine j_bipush 87 cx 40 dX6_sheet_87 (by decide) ?_
                refine j_icmp_ge_F 89 cx 111 dX6_sheet_89 (by decide) (nI_ge (b := 40) (by omega) (by omega)) ?_
                refine j_aload_n 92 cx 4 dX6_sheet_92 rfl ?_
                refine j_get 93 cx 0 15 (T := TX6) (v := .ref ((am 7))) (fun _ h => List.mem_cons_of_mem _ (List.mem_append_right _ (h))) (List.mem_of_getElem? (i := 5) rfl) (ci := 5) rfl (by decide) rfl rfl rfl dX6_sheet_93 ?_
                refine j_bipush 96 cx 40 dX6_sheet_96 (by decide) ?_
                refine j_iload_n 98 cx 3 dX6_sheet_98 rfl ?_
                refine j_imul 99 cx dX6_sheet_99 ?_
                refine j_top (nI (40 * k)) (pk_mul 40 k) ?_
                refine j_iload 100 cx 0 dX6_sheet_100 rfl ?_
                refine j_iadd 102 cx dX6_sheet_102 ?_
                refine j_top (nI (40 * k + j)) (nI_add (40 * k) j) ?_
                refine j_lconst 103 cx 0 dX6_sheet_103 (by decide) ?_
                refine j_last 104 cx 4 (40 * k + j) (wMO o am (sP S) la (nI (sL S)) tk be an va bd ++ ([((am 3), .inl (gI G, 7, .inl (sF S)))] ++ ([((am 5), .inl (gI G, 4, .inl (upd (sB S) k b)))] ++ ([((am 6), .inl (gI G, 4, .inl (zN (uA (sZ S) k m))))] ++ [((am 7), .inl (gJ G, 160, .inr (.inl (vp_updL (cm (uA (sC S) k (zrF (sC S k) j))) (40 * k + j) 0))))])))) rfl rfl (by omega) (by decide) rfl dX6_sheet_104 ?_
                refine j_ws (wMO o am (sP S) la (nI (sL S)) tk be an va bd ++ ([((am 3), .inl (gI G, 7, .inl (sF S)))] ++ ([((am 5), .inl (gI G, 4, .inl (upd (sB S) k b)))] ++ ([((am 6), .inl (gI G, 4, .inl (zN (uA (sZ S) k m))))] ++ [((am 7), .inl (gJ G, 160, .inr (.inl (cm (uA (uA (sC S) k (zrF (sC S k) j)) k (vp_updL ((uA (sC S) k (zrF (sC S k) j)) k) j 0))))))])))) (congrArg (fun zf : Nat → Int64 => wMO o am (sP S) la (nI (sL S)) tk be an va bd ++ ([((am 3), .inl (gI G, 7, .inl (sF S)))] ++ ([((am 5), .inl (gI G, 4, .inl (upd (sB S) k b)))] ++ ([((am 6), .inl (gI G, 4, .inl (zN (uA (sZ S) k m))))] ++ [((am 7), .inl (gJ G, 160, .inr (.inl zf)))])))) (cm_up _ k _ (by omega))) ?_
                refine j_iinc 105 cx [(4, .int (nI (j + 1))), (3, .int (nI m)), (2, .int b), (1, .int (nI k)), (0, .ref o)] 0 (nI (j + 1)) dX6_sheet_105 rfl (iinc1 j) (by decide) rfl ?_
                refine j_goto 108 cx 85 dX6_sheet_108 (by decide) ?_
                have h9 := ih85 (j + 1) (by omega)
                rw [← sh_zr] at h9
                exact h9
            refine j_lv [0, 4, 3, 2, 1] rfl ?_
            refine j_ws (wMO o am (sP S) la (nI (sL S)) tk be an va bd ++ ([((am 3), .inl (gI G, 7, .inl (sF S)))] ++ ([((am 5), .inl (gI G, 4, .inl (upd (sB S) k b)))] ++ ([((am 6), .inl (gI G, 4, .inl (zN (uA (sZ S) k m))))] ++ [((am 7), .inl (gJ G, 160, .inr (.inl (cm (uA (sC S) k (zrF (sC S k) 0))))))])))) (congrArg (fun zf : Nat → Nat → Int64 => wMO o am (sP S) la (nI (sL S)) tk be an va bd ++ ([((am 3), .inl (gI G, 7, .inl (sF S)))] ++ ([((am 5), .inl (gI G, 4, .inl (upd (sB S) k b)))] ++ ([((am 6), .inl (gI G, 4, .inl (zN (uA (sZ S) k m))))] ++ [((am 7), .inl (gJ G, 160, .inr (.inl (cm zf))))])))) (sh_z0 (sC S) k)) ?_
            exact L85 40 0 (by omega)
          · skip
            refine j_aload_n 53 cx 0 dX6_sheet_53 rfl ?_
            refine j_ldc 54 cx (v := -1000000001) (List.mem_of_getElem? (i := 1) rfl) dX6_sheet_54 ?_
            refine j_callV_i 56 cx 1 [0, 1] [.int (fcode 0)] (fun _ => wMO o am (sP S) la (nI (sL S)) tk be an va bd ++ ([((am 3), .inl (gI G, 7, .inl (upd (sF S) 0 ((sF S) 0 + 1))))] ++ ([((am 5), .inl (gI G, 4, .inl (sB S)))] ++ ([((am 6), .inl (gI G, 4, .inl (zN (sZ S))))] ++ [((am 7), .inl (gJ G, 160, .inr (.inl (cm (sC S)))))])))) (c_X6_finds (kl K) G o am (sP S) la (nI (sL S)) tk be an va bd (sF S) 0 (by decide)) gX6_sheet_X6_finds rfl rfl rfl ⟨rfl, by decide, by decide, rfl⟩ ⟨Nat.le_of_ble_eq_true rfl, Nat.le_of_ble_eq_true rfl⟩ ⟨Nat.zero_le _, Nat.zero_le _⟩ rfl (by decide) (ci := 5) 0 rfl rfl rfl rfl rfl (Nat.le_of_ble_eq_true rfl) dX6_sheet_56 (fun _ => rfl) (fun zu6 zk6 => ?_)
            refine j_top (fcode 0) rfl ?_
            have ze : (sp_sheet (nI k) b n S) = bad S 0 := by unfold sp_sheet; simp [s_in hk, show pN (nI k) = k from nI_clamp (by omega), hb, zc1, zc4, zc7, Int32.not_lt.mpr zc8, Int32.not_le.mp zc9]
            exact fin () _ _ _ _ dX6_sheet_59 rfl (by rw [ze] <;> rfl) (by rw [ze] <;> rfl) trivial
        · skip
          refine j_aload_n 40 cx 0 dX6_sheet_40 rfl ?_
          refine j_ldc 41 cx (v := -1000000007) (List.mem_of_getElem? (i := 2) rfl) dX6_sheet_41 ?_
          refine j_callV_i 43 cx 1 [0, 1] [.int (fcode 6)] (fun _ => wMO o am (sP S) la (nI (sL S)) tk be an va bd ++ ([((am 3), .inl (gI G, 7, .inl (upd (sF S) 6 ((sF S) 6 + 1))))] ++ ([((am 5), .inl (gI G, 4, .inl (sB S)))] ++ ([((am 6), .inl (gI G, 4, .inl (zN (sZ S))))] ++ [((am 7), .inl (gJ G, 160, .inr (.inl (cm (sC S)))))])))) (c_X6_finds (kl K) G o am (sP S) la (nI (sL S)) tk be an va bd (sF S) 6 (by decide)) gX6_sheet_X6_finds rfl rfl rfl ⟨rfl, by decide, by decide, rfl⟩ ⟨Nat.le_of_ble_eq_true rfl, Nat.le_of_ble_eq_true rfl⟩ ⟨Nat.zero_le _, Nat.zero_le _⟩ rfl (by decide) (ci := 5) 0 rfl rfl rfl rfl rfl (Nat.le_of_ble_eq_true rfl) dX6_sheet_43 (fun _ => rfl) (fun zu7 zk7 => ?_)
          refine j_top (fcode 6) rfl ?_
          have ze : (sp_sheet (nI k) b n S) = bad S 6 := by unfold sp_sheet; simp [s_in hk, show pN (nI k) = k from nI_clamp (by omega), hb, zc1, zc4, zc7, Int32.not_le.mp zc8]
          exact fin () _ _ _ _ dX6_sheet_46 rfl (by rw [ze] <;> rfl) (by rw [ze] <;> rfl) trivial
      · skip
        refine j_aload_n 29 cx 0 dX6_sheet_29 rfl ?_
        refine j_ldc 30 cx (v := -1000000001) (List.mem_of_getElem? (i := 1) rfl) dX6_sheet_30 ?_
        refine j_callV_i 32 cx 1 [0, 1] [.int (fcode 0)] (fun _ => wMO o am (sP S) la (nI (sL S)) tk be an va bd ++ ([((am 3), .inl (gI G, 7, .inl (upd (sF S) 0 ((sF S) 0 + 1))))] ++ ([((am 5), .inl (gI G, 4, .inl (sB S)))] ++ ([((am 6), .inl (gI G, 4, .inl (zN (sZ S))))] ++ [((am 7), .inl (gJ G, 160, .inr (.inl (cm (sC S)))))])))) (c_X6_finds (kl K) G o am (sP S) la (nI (sL S)) tk be an va bd (sF S) 0 (by decide)) gX6_sheet_X6_finds rfl rfl rfl ⟨rfl, by decide, by decide, rfl⟩ ⟨Nat.le_of_ble_eq_true rfl, Nat.le_of_ble_eq_true rfl⟩ ⟨Nat.zero_le _, Nat.zero_le _⟩ rfl (by decide) (ci := 5) 0 rfl rfl rfl rfl rfl (Nat.le_of_ble_eq_true rfl) dX6_sheet_32 (fun _ => rfl) (fun zu8 zk8 => ?_)
        refine j_top (fcode 0) rfl ?_
        have ze : (sp_sheet (nI k) b n S) = bad S 0 := by unfold sp_sheet; simp [s_in hk, show pN (nI k) = k from nI_clamp (by omega), hb, zc1, zc4, zc7]
        exact fin () _ _ _ _ dX6_sheet_35 rfl (by rw [ze] <;> rfl) (by rw [ze] <;> rfl) trivial
theorem c_X6_sheet_t (l : Launch) (G : pG) (o : Nat) (am : Nat → Nat) (S : St) (la tk be an va : Int32) (bd : Bool) (k : Nat) (hk : k < 4) (b n : Int32) : KI l G yX6_sheet wsX6_sheet ({ frames := 2, cells := 0, slots := 0, locals := 43 } : Room) [.ref o, .int (nI k), .int b, .int n] (wMO o am (sP S) la (nI (sL S)) tk be an va bd ++ ([((am 3), .inl (gI G, 7, .inl (sF S)))] ++ ([((am 5), .inl (gI G, 4, .inl (sB S)))] ++ ([((am 6), .inl (gI G, 4, .inl (zN (sZ S))))] ++ [((am 7), .inl (gJ G, 160, .inr (.inl (cm (sC S)))))])))) (S := Unit) (fun _ => True) (fun u => (sp_sheet (nI k) b n S).1) (fun u => wMO o am (sP S) la (nI (sL S)) tk be an va bd ++ ([((am 3), .inl (gI G, 7, .inl (sF (sp_sheet (nI k) b n S).2)))] ++ ([((am 5), .inl (gI G, 4, .inl (sB (sp_sheet (nI k) b n S).2)))] ++ ([((am 6), .inl (gI G, 4, .inl (zN (sZ (sp_sheet (nI k) b n S).2))))] ++ [((am 7), .inl (gJ G, 160, .inr (.inl (cm (sC (sp_sheet (nI k) b n S).2)))))])))) := by
  by_cases hb : b = 0
  · exact c_X6_sheet_t0 l G o am S la tk be an va bd k hk b n hb
  · exact c_X6_sheet_t1 l G o am S la tk be an va bd k hk b n hb
set_option maxRecDepth 100000 in
set_option maxHeartbeats 4000000 in
theorem c_X6_sheet_f (l : Launch) (G : pG) (o : Nat) (am : Nat → Nat) (S : St) (la tk be an va : Int32) (bd : Bool) (s b n : Int32) (hv : inI s 0 3 = false) : KI l G yX6_sheet wsX6_sheet ({ frames := 2, cells := 0, slots := 0, locals := 43 } : Room) [.ref o, .int s, .int b, .int n] (wMO o am (sP S) la (nI (sL S)) tk be an va bd ++ ([((am 3), .inl (gI G, 7, .inl (sF S)))] ++ ([((am 5), .inl (gI G, 4, .inl (sB S)))] ++ ([((am 6), .inl (gI G, 4, .inl (zN (sZ S))))] ++ [((am 7), .inl (gJ G, 160, .inr (.inl (cm (sC S)))))])))) (S := Unit) (fun _ => True) (fun u => (sp_sheet s b n S).1) (fun u => wMO o am (sP S) la (nI (sL S)) tk be an va bd ++ ([((am 3), .inl (gI G, 7, .inl (sF (sp_sheet s b n S).2)))] ++ ([((am 5), .inl (gI G, 4, .inl (sB (sp_sheet s b n S).2)))] ++ ([((am 6), .inl (gI G, 4, .inl (zN (sZ (sp_sheet s b n S).2))))] ++ [((am 7), .inl (gJ G, 160, .inr (.inl (cm (sC (sp_sheet s b n S).2)))))])))) := by
  refine ki_of [(0, .ref o), (1, .int s), (2, .int b), (3, .int n)] (own := RX6) (cc := cX6_sheet) (nL := 5) (by decide +kernel) rfl rfl (Nat.le_of_ble_eq_true rfl) rfl (fun _ => rfl) (fun K cx fin => ?_)
  refine j_iload_n 0 cx 1 dX6_sheet_0 rfl ?_
  refine j_callS_i 1 cx 1 [] [.int s] (fun _ => wMO o am (sP S) la (nI (sL S)) tk be an va bd ++ ([((am 3), .inl (gI G, 7, .inl (sF S)))] ++ ([((am 5), .inl (gI G, 4, .inl (sB S)))] ++ ([((am 6), .inl (gI G, 4, .inl (zN (sZ S))))] ++ [((am 7), .inl (gJ G, 160, .inr (.inl (cm (sC S)))))])))) (c_X6_isSheet (kl K) G s) gX6_sheet_X6_isSheet rfl rfl rfl ⟨by decide, by decide, rfl⟩ ⟨Nat.le_of_ble_eq_true rfl, Nat.le_of_ble_eq_true rfl⟩ ⟨Nat.zero_le _, Nat.zero_le _⟩ rfl (by decide) rfl rfl (Nat.le_of_ble_eq_true rfl) dX6_sheet_1 (fun _ => rfl) (fun zu1 zk1 => ?_)
  refine j_top (bI (inI s 0 3)) rfl ?_
  refine j_if_eq_T 4 cx 29 dX6_sheet_4 (by decide) (by rw [hv]; rfl) ?_
  refine j_aload_n 29 cx 0 dX6_sheet_29 rfl ?_
  refine j_ldc 30 cx (v := -1000000001) (List.mem_of_getElem? (i := 1) rfl) dX6_sheet_30 ?_
  refine j_callV_i 32 cx 1 [0, 1] [.int (fcode 0)] (fun _ => wMO o am (sP S) la (nI (sL S)) tk be an va bd ++ ([((am 3), .inl (gI G, 7, .inl (upd (sF S) 0 ((sF S) 0 + 1))))] ++ ([((am 5), .inl (gI G, 4, .inl (sB S)))] ++ ([((am 6), .inl (gI G, 4, .inl (zN (sZ S))))] ++ [((am 7), .inl (gJ G, 160, .inr (.inl (cm (sC S)))))])))) (c_X6_finds (kl K) G o am (sP S) la (nI (sL S)) tk be an va bd (sF S) 0 (by decide)) gX6_sheet_X6_finds rfl rfl rfl ⟨rfl, by decide, by decide, rfl⟩ ⟨Nat.le_of_ble_eq_true rfl, Nat.le_of_ble_eq_true rfl⟩ ⟨Nat.zero_le _, Nat.zero_le _⟩ rfl (by decide) (ci := 5) 0 rfl rfl rfl rfl rfl (Nat.le_of_ble_eq_true rfl) dX6_sheet_32 (fun _ => rfl) (fun zu2 zk2 => ?_)
  refine j_top (fcode 0) rfl ?_
  have ze : (sp_sheet s b n S) = bad S 0 := by unfold sp_sheet; rw [if_neg (by rw [hv]; decide)]
  exact fin () _ _ _ _ dX6_sheet_35 rfl (by rw [ze] <;> rfl) (by rw [ze] <;> rfl) trivial
set_option maxRecDepth 100000 in
set_option maxHeartbeats 4000000 in
theorem c_X6_write_t (l : Launch) (G : pG) (o : Nat) (am : Nat → Nat) (S : St) (la tk be an va : Int32) (bd : Bool) (k : Nat) (hk : k < 4) (hz : sZ S k ≤ 40) (i : Int32) (v : Int64) : KL l G yX6_write wsX6_write ({ frames := 3, cells := 0, slots := 0, locals := 64 } : Room) [.ref o, .int (nI k), .int i, .long (v)] (wMO o am (sP S) la (nI (sL S)) tk be an va bd ++ ([((am 3), .inl (gI G, 7, .inl (sF S)))] ++ ([((am 5), .inl (gI G, 4, .inl (sB S)))] ++ ([((am 6), .inl (gI G, 4, .inl (zN (sZ S))))] ++ [((am 7), .inl (gJ G, 160, .inr (.inl (cm (sC S)))))])))) (S := Unit) (fun _ => True) (fun u => (sp_write (nI k) i v S).1) (fun u => wMO o am (sP S) la (nI (sL S)) tk be an va bd ++ ([((am 3), .inl (gI G, 7, .inl (sF (sp_write (nI k) i v S).2)))] ++ ([((am 5), .inl (gI G, 4, .inl (sB (sp_write (nI k) i v S).2)))] ++ ([((am 6), .inl (gI G, 4, .inl (zN (sZ (sp_write (nI k) i v S).2))))] ++ [((am 7), .inl (gJ G, 160, .inr (.inl (cm (sC (sp_write (nI k) i v S).2)))))])))) := by
  refine kl_of [(0, .ref o), (1, .int (nI k)), (2, .int i), (3, .long (v))] (own := RX6) (cc := cX6_write) (nL := 8) (by decide +kernel) rfl rfl (Nat.le_of_ble_eq_true rfl) rfl (fun _ => rfl) (fun K cx fin => ?_)
  refine j_aload_n 0 cx 0 dX6_write_0 rfl ?_
  refine j_iload_n 1 cx 1 dX6_write_1 rfl ?_
  rcases bcase (decide (sB S k = 0)) with zc1 | zc1
  · skip
    refine j_callV_i 2 cx 1 [0, 2] [.int (nI k)] (fun _ => wMO o am (sP S) la (nI (sL S)) tk be an va bd ++ ([((am 3), .inl (gI G, 7, .inl (sF S)))] ++ ([((am 5), .inl (gI G, 4, .inl (sB S)))] ++ ([((am 6), .inl (gI G, 4, .inl (zN (sZ S))))] ++ [((am 7), .inl (gJ G, 160, .inr (.inl (cm (sC S)))))])))) (c_X6_notThere (kl K) G o am (sP S) la (nI (sL S)) tk be an va bd (sB S) (nI k)) gX6_write_X6_notThere rfl rfl rfl ⟨rfl, by decide, by decide, rfl⟩ ⟨Nat.le_of_ble_eq_true rfl, Nat.le_of_ble_eq_true rfl⟩ ⟨Nat.zero_le _, Nat.zero_le _⟩ rfl (by decide) (ci := 5) 0 rfl rfl rfl rfl rfl (Nat.le_of_ble_eq_true rfl) dX6_write_2 (fun _ => rfl) (fun zu1 zk1 => ?_)
    refine j_top (thF (sB S) (nI k)) rfl ?_
    refine j_top ((-1000000006)) (thF_0 hk zc1) ?_
    refine j_istore 5 cx [(5, .int ((-1000000006))), (0, .ref o), (1, .int (nI k)), (2, .int i), (3, .long (v))] dX6_write_5 (by decide) rfl ?_
    refine j_iload 7 cx 0 dX6_write_7 rfl ?_
    refine j_if_ne_T 9 cx 33 dX6_write_9 (by decide) (by decide) ?_
    refine j_iload 33 cx 0 dX6_write_33 rfl ?_
    refine j_if_eq_F 35 cx 46 dX6_write_35 (by decide) (by decide) ?_
    refine j_aload_n 38 cx 1 dX6_write_38 rfl ?_
    refine j_iload 39 cx 0 dX6_write_39 rfl ?_
    refine j_callV_i 41 cx 1 [0, 1] [.int (fcode 5)] (fun _ => wMO o am (sP S) la (nI (sL S)) tk be an va bd ++ ([((am 3), .inl (gI G, 7, .inl (upd (sF S) 5 ((sF S) 5 + 1))))] ++ ([((am 5), .inl (gI G, 4, .inl (sB S)))] ++ ([((am 6), .inl (gI G, 4, .inl (zN (sZ S))))] ++ [((am 7), .inl (gJ G, 160, .inr (.inl (cm (sC S)))))])))) (c_X6_finds (kl K) G o am (sP S) la (nI (sL S)) tk be an va bd (sF S) 5 (by decide)) gX6_write_X6_finds rfl rfl rfl ⟨rfl, by decide, by decide, rfl⟩ ⟨Nat.le_of_ble_eq_true rfl, Nat.le_of_ble_eq_true rfl⟩ ⟨Nat.zero_le _, Nat.zero_le _⟩ rfl (by decide) (ci := 5) 0 rfl rfl rfl rfl rfl (Nat.le_of_ble_eq_true rfl) dX6_write_41 (fun _ => rfl) (fun zu2 zk2 => ?_)
    refine j_top (fcode 5) rfl ?_
    refine j_i2l 44 cx dX6_write_44 ?_
    have ze : (sp_write (nI k) i v S) = badL S 5 := by unfold sp_write; simp [s_in hk, show pN (nI k) = k from nI_clamp (by omega), of_decide_eq_true zc1]
    exact fin () _ _ _ _ dX6_write_45 (by rw [ze] <;> rfl) (by rw [ze] <;> rfl) trivial
  · skip
    refine j_callV_i 2 cx 1 [0, 2] [.int (nI k)] (fun _ => wMO o am (sP S) la (nI (sL S)) tk be an va bd ++ ([((am 3), .inl (gI G, 7, .inl (sF S)))] ++ ([((am 5), .inl (gI G, 4, .inl (sB S)))] ++ ([((am 6), .inl (gI G, 4, .inl (zN (sZ S))))] ++ [((am 7), .inl (gJ G, 160, .inr (.inl (cm (sC S)))))])))) (c_X6_notThere (kl K) G o am (sP S) la (nI (sL S)) tk be an va bd (sB S) (nI k)) gX6_write_X6_notThere rfl rfl rfl ⟨rfl, by decide, by decide, rfl⟩ ⟨Nat.le_of_ble_eq_true rfl, Nat.le_of_ble_eq_true rfl⟩ ⟨Nat.zero_le _, Nat.zero_le _⟩ rfl (by decide) (ci := 5) 0 rfl rfl rfl rfl rfl (Nat.le_of_ble_eq_true rfl) dX6_write_2 (fun _ => rfl) (fun zu3 zk3 => ?_)
    refine j_top (thF (sB S) (nI k)) rfl ?_
    refine j_top (0) (thF_1 hk zc1) ?_
    refine j_istore 5 cx [(5, .int 0), (0, .ref o), (1, .int (nI k)), (2, .int i), (3, .long (v))] dX6_write_5 (by decide) rfl ?_
    refine j_iload 7 cx 0 dX6_write_7 rfl ?_
    refine j_if_ne_F 9 cx 33 dX6_write_9 (by decide) (by decide) ?_
    refine j_iload_n 12 cx 3 dX6_write_12 rfl ?_
    refine j_i2l 13 cx dX6_write_13 ?_
    refine j_iconst 14 cx 0 dX6_write_14 (by decide) ?_
    refine j_aload_n 15 cx 1 dX6_write_15 rfl ?_
    refine j_get 16 cx 0 14 (T := TX6) (v := .ref ((am 6))) (fun _ h => List.mem_cons_of_mem _ (List.mem_append_right _ (h))) (List.mem_of_getElem? (i := 1) rfl) (ci := 5) rfl (by decide) rfl rfl rfl dX6_write_16 ?_
    refine j_iload_n 19 cx 2 dX6_write_19 rfl ?_
    refine j_iald 20 cx 3 k rfl rfl (by omega) (by decide) dX6_write_20 ?_
    refine j_top (nI ((sZ S) k)) rfl ?_
    refine j_iconst 21 cx 1 dX6_write_21 (by decide) ?_
    refine j_isub 22 cx dX6_write_22 ?_
    refine j_callS_i 23 cx 3 [] [.long (i.toInt64), .int 0, .int ((nI ((sZ S) k)) - 1)] (fun _ => wMO o am (sP S) la (nI (sL S)) tk be an va bd ++ ([((am 3), .inl (gI G, 7, .inl (sF S)))] ++ ([((am 5), .inl (gI G, 4, .inl (sB S)))] ++ ([((am 6), .inl (gI G, 4, .inl (zN (sZ S))))] ++ [((am 7), .inl (gJ G, 160, .inr (.inl (cm (sC S)))))])))) (c_X6_in (kl K) G (i.toInt64) 0 ((nI ((sZ S) k)) - 1)) gX6_write_X6_in rfl rfl rfl ⟨by decide, by decide, rfl⟩ ⟨Nat.le_of_ble_eq_true rfl, Nat.le_of_ble_eq_true rfl⟩ ⟨Nat.zero_le _, Nat.zero_le _⟩ rfl (by decide) rfl rfl (Nat.le_of_ble_eq_true rfl) dX6_write_23 (fun _ => rfl) (fun zu4 zk4 => ?_)
    refine j_top (bI (inL (i.toInt64) 0 ((nI ((sZ S) k)) - 1))) rfl ?_
    refine j_top (bI (inI i 0 ((nI ((sZ S) k)) - 1))) (congrArg bI (inL_i i 0 ((nI ((sZ S) k)) - 1))) ?_
    refine j_ifB_ne 26 cx 33 dX6_write_26 (by decide) (fun zc2 => ?_) (fun zc2 => ?_)
    · skip
      obtain ⟨j, hj, rfl⟩ := in_n (by omega) zc2
      have hcj : pN (nI j) = j := nI_clamp (by omega)
      refine j_iload 33 cx 0 dX6_write_33 rfl ?_
      refine j_if_eq_T 35 cx 46 dX6_write_35 (by decide) (by decide) ?_
      refine j_aload_n 46 cx 1 dX6_write_46 rfl ?_
      refine j_get 47 cx 0 15 (T := TX6) (v := .ref ((am 7))) (fun _ h => List.mem_cons_of_mem _ (List.mem_append_right _ (h))) (List.mem_of_getElem? (i := 3) rfl) (ci := 5) rfl (by decide) rfl rfl rfl dX6_write_47 ?_
      refine j_bipush 50 cx 40 dX6_write_50 (by decide) ?_
      refine j_iload_n 52 cx 2 dX6_write_52 rfl ?_
      refine j_imul 53 cx dX6_write_53 ?_
      refine j_top (nI (40 * k)) (pk_mul 40 k) ?_
      refine j_iload_n 54 cx 3 dX6_write_54 rfl ?_
      refine j_iadd 55 cx dX6_write_55 ?_
      refine j_top (nI (40 * k + j)) (nI_add (40 * k) j) ?_
      refine j_lald 56 cx 4 (40 * k + j) rfl rfl (by omega) (by decide) dX6_write_56 ?_
      refine j_topl ((sC S) k j) (cm_at _ k (by omega)) ?_
      refine j_lstore 57 cx [(6, .long ((sC S) k j)), (5, .int 0), (0, .ref o), (1, .int (nI k)), (2, .int (nI j)), (3, .long (v))] dX6_write_57 (by decide) rfl ?_
      refine j_aload_n 59 cx 2 dX6_write_59 rfl ?_
      refine j_get 60 cx 0 15 (T := TX6) (v := .ref ((am 7))) (fun _ h => List.mem_cons_of_mem _ (List.mem_append_right _ (h))) (List.mem_of_getElem? (i := 3) rfl) (ci := 5) rfl (by decide) rfl rfl rfl dX6_write_60 ?_
      refine j_bipush 63 cx 40 dX6_write_63 (by decide) ?_
      refine j_iload_n 65 cx 3 dX6_write_65 rfl ?_
      refine j_imul 66 cx dX6_write_66 ?_
      refine j_top (nI (40 * k)) (pk_mul 40 k) ?_
      refine j_iload_n 67 cx 4 dX6_write_67 rfl ?_
      refine j_iadd 68 cx dX6_write_68 ?_
      refine j_top (nI (40 * k + j)) (nI_add (40 * k) j) ?_
      refine j_aload_n 69 cx 2 dX6_write_69 rfl ?_
      refine j_get 70 cx 0 13 (T := TX6) (v := .ref ((am 5))) (fun _ h => List.mem_cons_of_mem _ (List.mem_append_right _ (h))) (List.mem_of_getElem? (i := 4) rfl) (ci := 5) rfl (by decide) rfl rfl rfl dX6_write_70 ?_
      refine j_iload_n 73 cx 3 dX6_write_73 rfl ?_
      refine j_iald 74 cx 2 k rfl rfl (by omega) (by decide) dX6_write_74 ?_
      refine j_lload_n 75 cx 5 dX6_write_75 rfl ?_
      refine j_callS_l 76 cx 2 [] [.int ((sB S) k), .long (v)] (fun _ => wMO o am (sP S) la (nI (sL S)) tk be an va bd ++ ([((am 3), .inl (gI G, 7, .inl (sF S)))] ++ ([((am 5), .inl (gI G, 4, .inl (sB S)))] ++ ([((am 6), .inl (gI G, 4, .inl (zN (sZ S))))] ++ [((am 7), .inl (gJ G, 160, .inr (.inl (cm (sC S)))))])))) (c_X6_cutTo (kl K) G ((sB S) k) v) gX6_write_X6_cutTo rfl rfl rfl ⟨by decide, by decide, rfl⟩ ⟨Nat.le_of_ble_eq_true rfl, Nat.le_of_ble_eq_true rfl⟩ ⟨Nat.zero_le _, Nat.zero_le _⟩ rfl (by decide) rfl rfl (Nat.le_of_ble_eq_true rfl) dX6_write_76 (fun _ => rfl) (fun zu5 zk5 => ?_)
      refine j_topl (cutF ((sB S) k) v) rfl ?_
      refine j_last 79 cx 4 (40 * k + j) (wMO o am (sP S) la (nI (sL S)) tk be an va bd ++ ([((am 3), .inl (gI G, 7, .inl (sF S)))] ++ ([((am 5), .inl (gI G, 4, .inl (sB S)))] ++ ([((am 6), .inl (gI G, 4, .inl (zN (sZ S))))] ++ [((am 7), .inl (gJ G, 160, .inr (.inl (vp_updL (cm (sC S)) (40 * k + j) (cutF ((sB S) k) v)))))])))) rfl rfl (by omega) (by decide) rfl dX6_write_79 ?_
      refine j_ws (wMO o am (sP S) la (nI (sL S)) tk be an va bd ++ ([((am 3), .inl (gI G, 7, .inl (sF S)))] ++ ([((am 5), .inl (gI G, 4, .inl (sB S)))] ++ ([((am 6), .inl (gI G, 4, .inl (zN (sZ S))))] ++ [((am 7), .inl (gJ G, 160, .inr (.inl (cm (uA (sC S) k (vp_updL ((sC S) k) j (cutF ((sB S) k) v)))))))])))) (congrArg (fun zf : Nat → Int64 => wMO o am (sP S) la (nI (sL S)) tk be an va bd ++ ([((am 3), .inl (gI G, 7, .inl (sF S)))] ++ ([((am 5), .inl (gI G, 4, .inl (sB S)))] ++ ([((am 6), .inl (gI G, 4, .inl (zN (sZ S))))] ++ [((am 7), .inl (gJ G, 160, .inr (.inl zf)))])))) (cm_up _ k _ (by omega))) ?_
      refine j_lload 80 cx 0 dX6_write_80 rfl ?_
      have ze : (sp_write (nI k) (nI j) v S) = ((sC S) k j, stB S (sB S) (sZ S) (uA (sC S) k (vp_updL ((sC S) k) j (cutF ((sB S) k) v)))) := by unfold sp_write; simp [s_in hk, show pN (nI k) = k from nI_clamp (by omega), of_decide_eq_false zc1, zc2, hcj]
      exact fin () _ _ _ _ dX6_write_82 (by rw [ze] <;> rfl) (by rw [ze] <;> rfl) trivial
    · skip
      refine j_ldc 29 cx (v := -1000000001) (List.mem_of_getElem? (i := 2) rfl) dX6_write_29 ?_
      refine j_istore 31 cx [(5, .int ((-1000000001))), (0, .ref o), (1, .int (nI k)), (2, .int i), (3, .long (v))] dX6_write_31 (by decide) rfl ?_
      refine j_iload 33 cx 0 dX6_write_33 rfl ?_
      refine j_if_eq_F 35 cx 46 dX6_write_35 (by decide) (by decide) ?_
      refine j_aload_n 38 cx 1 dX6_write_38 rfl ?_
      refine j_iload 39 cx 0 dX6_write_39 rfl ?_
      refine j_callV_i 41 cx 1 [0, 1] [.int (fcode 0)] (fun _ => wMO o am (sP S) la (nI (sL S)) tk be an va bd ++ ([((am 3), .inl (gI G, 7, .inl (upd (sF S) 0 ((sF S) 0 + 1))))] ++ ([((am 5), .inl (gI G, 4, .inl (sB S)))] ++ ([((am 6), .inl (gI G, 4, .inl (zN (sZ S))))] ++ [((am 7), .inl (gJ G, 160, .inr (.inl (cm (sC S)))))])))) (c_X6_finds (kl K) G o am (sP S) la (nI (sL S)) tk be an va bd (sF S) 0 (by decide)) gX6_write_X6_finds rfl rfl rfl ⟨rfl, by decide, by decide, rfl⟩ ⟨Nat.le_of_ble_eq_true rfl, Nat.le_of_ble_eq_true rfl⟩ ⟨Nat.zero_le _, Nat.zero_le _⟩ rfl (by decide) (ci := 5) 0 rfl rfl rfl rfl rfl (Nat.le_of_ble_eq_true rfl) dX6_write_41 (fun _ => rfl) (fun zu6 zk6 => ?_)
      refine j_top (fcode 0) rfl ?_
      refine j_i2l 44 cx dX6_write_44 ?_
      have ze : (sp_write (nI k) i v S) = badL S 0 := by unfold sp_write; simp [s_in hk, show pN (nI k) = k from nI_clamp (by omega), of_decide_eq_false zc1, zc2]
      exact fin () _ _ _ _ dX6_write_45 (by rw [ze] <;> rfl) (by rw [ze] <;> rfl) trivial
set_option maxRecDepth 100000 in
set_option maxHeartbeats 4000000 in
theorem c_X6_write_f (l : Launch) (G : pG) (o : Nat) (am : Nat → Nat) (S : St) (la tk be an va : Int32) (bd : Bool) (s i : Int32) (v : Int64) (hv : inI s 0 3 = false) : KL l G yX6_write wsX6_write ({ frames := 3, cells := 0, slots := 0, locals := 64 } : Room) [.ref o, .int s, .int i, .long (v)] (wMO o am (sP S) la (nI (sL S)) tk be an va bd ++ ([((am 3), .inl (gI G, 7, .inl (sF S)))] ++ ([((am 5), .inl (gI G, 4, .inl (sB S)))] ++ ([((am 6), .inl (gI G, 4, .inl (zN (sZ S))))] ++ [((am 7), .inl (gJ G, 160, .inr (.inl (cm (sC S)))))])))) (S := Unit) (fun _ => True) (fun u => (sp_write s i v S).1) (fun u => wMO o am (sP S) la (nI (sL S)) tk be an va bd ++ ([((am 3), .inl (gI G, 7, .inl (sF (sp_write s i v S).2)))] ++ ([((am 5), .inl (gI G, 4, .inl (sB (sp_write s i v S).2)))] ++ ([((am 6), .inl (gI G, 4, .inl (zN (sZ (sp_write s i v S).2))))] ++ [((am 7), .inl (gJ G, 160, .inr (.inl (cm (sC (sp_write s i v S).2)))))])))) := by
  refine kl_of [(0, .ref o), (1, .int s), (2, .int i), (3, .long (v))] (own := RX6) (cc := cX6_write) (nL := 8) (by decide +kernel) rfl rfl (Nat.le_of_ble_eq_true rfl) rfl (fun _ => rfl) (fun K cx fin => ?_)
  refine j_aload_n 0 cx 0 dX6_write_0 rfl ?_
  refine j_iload_n 1 cx 1 dX6_write_1 rfl ?_
  refine j_callV_i 2 cx 1 [0, 2] [.int s] (fun _ => wMO o am (sP S) la (nI (sL S)) tk be an va bd ++ ([((am 3), .inl (gI G, 7, .inl (sF S)))] ++ ([((am 5), .inl (gI G, 4, .inl (sB S)))] ++ ([((am 6), .inl (gI G, 4, .inl (zN (sZ S))))] ++ [((am 7), .inl (gJ G, 160, .inr (.inl (cm (sC S)))))])))) (c_X6_notThere (kl K) G o am (sP S) la (nI (sL S)) tk be an va bd (sB S) s) gX6_write_X6_notThere rfl rfl rfl ⟨rfl, by decide, by decide, rfl⟩ ⟨Nat.le_of_ble_eq_true rfl, Nat.le_of_ble_eq_true rfl⟩ ⟨Nat.zero_le _, Nat.zero_le _⟩ rfl (by decide) (ci := 5) 0 rfl rfl rfl rfl rfl (Nat.le_of_ble_eq_true rfl) dX6_write_2 (fun _ => rfl) (fun zu1 zk1 => ?_)
  refine j_top (thF (sB S) s) rfl ?_
  refine j_top ((-1000000001)) (thF_f hv) ?_
  refine j_istore 5 cx [(5, .int ((-1000000001))), (0, .ref o), (1, .int s), (2, .int i), (3, .long (v))] dX6_write_5 (by decide) rfl ?_
  refine j_iload 7 cx 0 dX6_write_7 rfl ?_
  refine j_if_ne_T 9 cx 33 dX6_write_9 (by decide) (by decide) ?_
  refine j_iload 33 cx 0 dX6_write_33 rfl ?_
  refine j_if_eq_F 35 cx 46 dX6_write_35 (by decide) (by decide) ?_
  refine j_aload_n 38 cx 1 dX6_write_38 rfl ?_
  refine j_iload 39 cx 0 dX6_write_39 rfl ?_
  refine j_callV_i 41 cx 1 [0, 1] [.int (fcode 0)] (fun _ => wMO o am (sP S) la (nI (sL S)) tk be an va bd ++ ([((am 3), .inl (gI G, 7, .inl (upd (sF S) 0 ((sF S) 0 + 1))))] ++ ([((am 5), .inl (gI G, 4, .inl (sB S)))] ++ ([((am 6), .inl (gI G, 4, .inl (zN (sZ S))))] ++ [((am 7), .inl (gJ G, 160, .inr (.inl (cm (sC S)))))])))) (c_X6_finds (kl K) G o am (sP S) la (nI (sL S)) tk be an va bd (sF S) 0 (by decide)) gX6_write_X6_finds rfl rfl rfl ⟨rfl, by decide, by decide, rfl⟩ ⟨Nat.le_of_ble_eq_true rfl, Nat.le_of_ble_eq_true rfl⟩ ⟨Nat.zero_le _, Nat.zero_le _⟩ rfl (by decide) (ci := 5) 0 rfl rfl rfl rfl rfl (Nat.le_of_ble_eq_true rfl) dX6_write_41 (fun _ => rfl) (fun zu2 zk2 => ?_)
  refine j_top (fcode 0) rfl ?_
  refine j_i2l 44 cx dX6_write_44 ?_
  have ze : (sp_write s i v S) = badL S 0 := by unfold sp_write; rw [if_neg (by rw [hv]; decide)]
  exact fin () _ _ _ _ dX6_write_45 (by rw [ze] <;> rfl) (by rw [ze] <;> rfl) trivial
