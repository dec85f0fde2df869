set_option maxRecDepth 100000 in
set_option maxHeartbeats 4000000 in
theorem c_X4_append (l : Launch) (G : pG) (ax : Nat → Nat) (t : TF) (L : Nat) (v y : Int32) (hL : L < 120) (hy : vp_nar .byte y = bt v) : KV l G yX4_append wsX4_append ({ frames := 0, cells := 0, slots := 0, locals := 0 } : Room) [.ref ((ax 4)), .int y] (wTP ax (nI L) ++ [((ax 8), .inl (gB G, 120, .inl (fun k => bt (t k))))]) (S := Unit) (fun _ => True) (fun u => wTP ax (nI (L + 1)) ++ [((ax 8), .inl (gB G, 120, .inl (fun k => bt ((upd t L v) k))))]) := by
  refine kv_of [(0, .ref ((ax 4))), (1, .int y)] (own := RX4) (cc := cX4_append) (nL := 2) (by decide +kernel) rfl rfl (Nat.le_of_ble_eq_true rfl) rfl (fun _ => Eq.trans (b := [ax 4, ax 8]) rfl rfl) (fun K cx fin => ?_)
  refine j_aload_n 0 cx 0 dX4_append_0 rfl ?_
  refine j_get 1 cx 0 1 (T := TX4) (v := .int (nI L)) (fun _ h => List.mem_cons_of_mem _ (List.mem_append_right _ (h))) (List.mem_of_getElem? (i := 1) rfl) (ci := 3) rfl (by decide) rfl rfl rfl dX4_append_1 ?_
  refine j_bipush 4 cx 120 dX4_append_4 (by decide) ?_
  refine j_icmp_ge_F 6 cx 29 dX4_append_6 (by decide) (nI_ge (b := 120) (by omega) (by omega)) ?_
  refine j_aload_n 9 cx 0 dX4_append_9 rfl ?_
  refine j_get 10 cx 0 0 (T := TX4) (v := .ref ((ax 8))) (fun _ h => List.mem_cons_of_mem _ (List.mem_append_right _ (h))) (List.mem_of_getElem? (i := 2) rfl) (ci := 3) rfl (by decide) rfl rfl rfl dX4_append_10 ?_
  refine j_aload_n 13 cx 0 dX4_append_13 rfl ?_
  refine j_get 14 cx 0 1 (T := TX4) (v := .int (nI L)) (fun _ h => List.mem_cons_of_mem _ (List.mem_append_right _ (h))) (List.mem_of_getElem? (i := 1) rfl) (ci := 3) rfl (by decide) rfl rfl rfl dX4_append_14 ?_
  refine j_iload_n 17 cx 1 dX4_append_17 rfl ?_
  refine j_bast 18 cx 1 L (wTP ax (nI L) ++ [((ax 8), .inl (gB G, 120, .inl (upd (fun k => bt (t k)) L (vp_nar .byte y))))]) rfl rfl (by omega) (by decide) rfl dX4_append_18 ?_
  refine j_ws (wTP ax (nI L) ++ [((ax 8), .inl (gB G, 120, .inl (fun k => bt ((upd t L v) k))))]) (congrArg (fun zf : Nat → Int32 => wTP ax (nI L) ++ [((ax 8), .inl (gB G, 120, .inl zf))]) (bt_up t L hy)) ?_
  refine j_aload_n 19 cx 0 dX4_append_19 rfl ?_
  refine j_dup 20 cx dX4_append_20 rfl ?_
  refine j_get 21 cx 0 1 (T := TX4) (v := .int (nI L)) (fun _ h => List.mem_cons_of_mem _ (List.mem_append_right _ (h))) (List.mem_of_getElem? (i := 1) rfl) (ci := 3) rfl (by decide) rfl rfl rfl dX4_append_21 ?_
  refine j_iconst 24 cx 1 dX4_append_24 (by decide) ?_
  refine j_iadd 25 cx dX4_append_25 ?_
  refine j_top (nI (L + 1)) (nI_add L 1) ?_
  refine j_put 26 cx 0 1 (wTP ax (nI (L + 1)) ++ [((ax 8), .inl (gB G, 120, .inl (fun k => bt ((upd t L v) k))))]) (T := TX4) (ty0 := tyX4) (fun _ h => List.mem_cons_of_mem _ (List.mem_append_right _ (h))) (List.mem_of_getElem? (i := 1) rfl) (ci := 3) rfl (by decide) rfl tyX4_ok nmX4 rfl rfl rfl rfl (Nat.le_of_ble_eq_true rfl) rfl dX4_append_26 ?_
  exact fin () _ _ _ dX4_append_29 rfl trivial
set_option maxRecDepth 100000 in
set_option maxHeartbeats 4000000 in
theorem c_X5_feed (l : Launch) (G : pG) (o : Nat) (ax : Nat → Nat) (S : St) (hL : sL S ≤ 120) (b n : Int32) : KI l G yX5_feed wsX5_feed ({ frames := 1, cells := 0, slots := 0, locals := 22 } : Room) [.ref o, .int b, .int n] (wXO o ax (sP S) ++ ([((ax 7), .inl (gI G, 7, .inl (sF S)))] ++ (wTP ax (nI (sL S)) ++ [((ax 8), .inl (gB G, 120, .inl (fun k => bt ((sT S) k))))]))) (S := Unit) (fun _ => True) (fun u => (sp_feed b n S).1) (fun u => wXO o ax (sP S) ++ ([((ax 7), .inl (gI G, 7, .inl (sF (sp_feed b n S).2)))] ++ (wTP ax (nI (sL (sp_feed b n S).2)) ++ [((ax 8), .inl (gB G, 120, .inl (fun k => bt ((sT (sp_feed b n S).2) k))))]))) := by
  refine ki_of [(0, .ref o), (1, .int b), (2, .int n)] (own := RX5) (cc := cX5_feed) (nL := 4) (by decide +kernel) rfl rfl (Nat.le_of_ble_eq_true rfl) rfl (fun _ => Eq.trans (b := [o, ax 7, ax 4, ax 8]) rfl rfl) (fun K cx fin => ?_)
  refine j_iload_n 0 cx 2 dX5_feed_0 rfl ?_
  refine j_iconst 1 cx 1 dX5_feed_1 (by decide) ?_
  refine j_iconst 2 cx 4 dX5_feed_2 (by decide) ?_
  refine j_callS_i 3 cx 3 [] [.int n, .int 1, .int 4] (fun _ => wXO o ax (sP S) ++ ([((ax 7), .inl (gI G, 7, .inl (sF S)))] ++ (wTP ax (nI (sL S)) ++ [((ax 8), .inl (gB G, 120, .inl (fun k => bt ((sT S) k))))]))) (c_X5_inside (kl K) G n 1 4) gX5_feed_X5_inside rfl rfl rfl ⟨by decide, by decide, rfl⟩ ⟨Nat.le_of_ble_eq_true rfl, Nat.le_of_ble_eq_true rfl⟩ ⟨Nat.zero_le _, Nat.zero_le _⟩ rfl (by decide) rfl rfl (Nat.le_of_ble_eq_true rfl) dX5_feed_3 (fun _ => rfl) (fun zu1 zk1 => ?_)
  refine j_top (bI (inI n 1 4)) rfl ?_
  refine j_ifB_ne 6 cx 16 dX5_feed_6 (by decide) (fun zc1 => ?_) (fun zc1 => ?_)
  · skip
    obtain ⟨kn, hkn1, hkn2, rfl⟩ := in_c (L := 1) (M := 4) (a := 1) (m := 4) rfl rfl zc1
    have hckn : (nI kn).toNatClampNeg = kn := nI_clamp (by omega)
    refine j_aload_n 16 cx 0 dX5_feed_16 rfl ?_
    refine j_get 17 cx 0 4 (T := TX5) (v := .ref ((ax 4))) (fun _ h => List.mem_cons_of_mem _ (List.mem_append_left _ (List.mem_append_right _ (h)))) (List.mem_of_getElem? (i := 2) rfl) (ci := 4) rfl (by decide) rfl rfl rfl dX5_feed_17 ?_
    refine j_get 20 cx 2 1 (T := TX4) (v := .int (nI (sL S))) (fun _ h => List.mem_cons_of_mem _ (List.mem_append_right _ (h))) (List.mem_of_getElem? (i := 3) rfl) (ci := 3) rfl (by decide) rfl rfl rfl dX5_feed_20 ?_
    refine j_iload_n 23 cx 2 dX5_feed_23 rfl ?_
    refine j_iadd 24 cx dX5_feed_24 ?_
    refine j_top (nI (sL S + kn)) (nI_add (sL S) kn) ?_
    refine j_bipush 25 cx 120 dX5_feed_25 (by decide) ?_
    refine j_icmp_le 27 cx 37 dX5_feed_27 (by decide) (fun zc2 => ?_) (fun zc2 => ?_)
    · skip
      have hle : sL S + kn ≤ 120 := by have h9 := mt (nI_ltI (a := 120) (b := sL S + kn) (by omega) (by omega)).mpr (Int32.not_lt.mpr zc2); omega
      refine j_bipush 37 cx 8 dX5_feed_37 (by decide) ?_
      refine j_iload_n 39 cx 2 dX5_feed_39 rfl ?_
      refine j_iconst 40 cx 1 dX5_feed_40 (by decide) ?_
      refine j_isub 41 cx dX5_feed_41 ?_
      refine j_top (nI (kn - 1)) (pk_sub (b := 1) (by omega)) ?_
      refine j_imul 42 cx dX5_feed_42 ?_
      refine j_top (nI (8 * kn) - 8) ((pk_mul 8 (kn - 1)).trans ((congrArg nI (by omega)).trans (pk_sub (a := 8 * kn) (b := 8) (by omega)).symm)) ?_
      refine j_istore_n 43 cx [(3, .int (nI (8 * kn) - 8)), (0, .ref o), (1, .int b), (2, .int (nI kn))] dX5_feed_43 (by decide) rfl ?_
      have L44 : ∀ d : Nat, ∀ (x : Nat), (x = d) → (x ≤ kn) → JJ G K 0 0 (wXO o ax (sP S) ++ ([((ax 7), .inl (gI G, 7, .inl (sF S)))] ++ (wTP ax (nI (sL S + (kn - x))) ++ [((ax 8), .inl (gB G, 120, .inl (fun k => bt ((fdT (sT S) (sL S) b kn (kn - x)) k))))]))) [(3, .int (nI (8 * x) - 8)), (2, .int (nI kn)), (1, .int b), (0, .ref o)] 44 [] := by
        intro d
        induction d with
        | zero =>
          intro x hx hxk
          subst hx
          rw [show nI (8 * 0) - 8 = -8 from by decide]
          refine j_iload_n 44 cx 0 dX5_feed_44 rfl ?_
          refine j_if_lt_T 45 cx 65 dX5_feed_45 (by decide) (by decide) ?_
          refine j_aload_n 65 cx 3 dX5_feed_65 rfl ?_
          refine j_get 66 cx 0 4 (T := TX5) (v := .ref ((ax 4))) (fun _ h => List.mem_cons_of_mem _ (List.mem_append_left _ (List.mem_append_right _ (h)))) (List.mem_of_getElem? (i := 2) rfl) (ci := 4) rfl (by decide) rfl rfl rfl dX5_feed_66 ?_
          refine j_get 69 cx 2 1 (T := TX4) (v := .int (nI (sL S + kn))) (fun _ h => List.mem_cons_of_mem _ (List.mem_append_right _ (h))) (List.mem_of_getElem? (i := 3) rfl) (ci := 3) rfl (by decide) rfl rfl rfl dX5_feed_69 ?_
          have ze : (sp_feed b (nI kn) S) = (nI (sL S + kn), stT S (fdT (sT S) (sL S) b kn kn) (sL S + kn)) := by unfold sp_feed; rw [if_pos zc1, if_neg (by rw [nI_add]; exact Int32.not_lt.mpr zc2), show pN (nI kn) = kn from hckn]
          exact fin () _ _ _ _ dX5_feed_72 rfl (by rw [ze] <;> rfl) (by rw [ze] <;> rfl) trivial
        | succ d ih44 =>
          intro x hx hxk
          subst hx
          rw [sub8 d]
          refine j_iload_n 44 cx 0 dX5_feed_44 rfl ?_
          refine j_if_lt_F 45 cx 65 dX5_feed_45 (by decide) (nI_pos (by omega)) ?_
          refine j_aload_n 48 cx 3 dX5_feed_48 rfl ?_
          refine j_get 49 cx 0 4 (T := TX5) (v := .ref ((ax 4))) (fun _ h => List.mem_cons_of_mem _ (List.mem_append_left _ (List.mem_append_right _ (h)))) (List.mem_of_getElem? (i := 2) rfl) (ci := 4) rfl (by decide) rfl rfl rfl dX5_feed_49 ?_
          refine j_iload_n 52 cx 2 dX5_feed_52 rfl ?_
          refine j_iload_n 53 cx 0 dX5_feed_53 rfl ?_
          refine j_ishr 54 cx dX5_feed_54 ?_
          refine j_i2b 55 cx dX5_feed_55 ?_
          refine j_callV_v 56 cx 1 [2, 3] [.int ((b >>> ((nI (8 * d)) &&& 31)).toInt8.toInt32)] (fun _ => wXO o ax (sP S) ++ ([((ax 7), .inl (gI G, 7, .inl (sF S)))] ++ (wTP ax (nI ((sL S + (kn - (d + 1))) + 1)) ++ [((ax 8), .inl (gB G, 120, .inl (fun k => bt ((upd (fdT (sT S) (sL S) b kn (kn - (d + 1))) (sL S + (kn - (d + 1))) ((b >>> ((nI (8 * d)) &&& 31)) &&& 255)) k))))]))) (c_X4_append (kl K) G ax (fdT (sT S) (sL S) b kn (kn - (d + 1))) (sL S + (kn - (d + 1))) ((b >>> ((nI (8 * d)) &&& 31)) &&& 255) ((b >>> ((nI (8 * d)) &&& 31)).toInt8.toInt32) (by omega) (bt_255 _)) gX5_feed_X4_append rfl rfl rfl ⟨rfl, by decide, by decide, rfl⟩ ⟨Nat.le_of_ble_eq_true rfl, Nat.le_of_ble_eq_true rfl⟩ ⟨Nat.zero_le _, Nat.zero_le _⟩ rfl (by decide) (ci := 3) 0 rfl rfl rfl rfl rfl (Nat.le_of_ble_eq_true rfl) dX5_feed_56 (fun _ => rfl) (fun zu2 zk2 => ?_)
          refine j_iinc 59 cx [(3, .int (nI (8 * d) - 8)), (2, .int (nI kn)), (1, .int b), (0, .ref o)] 0 (nI (8 * d) - 8) dX5_feed_59 rfl (i_m8 _) (by decide) rfl ?_
          refine j_goto 62 cx 44 dX5_feed_62 (by decide) ?_
          have h9 := ih44 d rfl (by omega)
          rw [← fd_s (d := d) (x := d + 1) rfl hxk, show sL S + (kn - d) = sL S + (kn - (d + 1)) + 1 from by omega] at h9
          exact h9
      refine j_lv [0, 3, 2, 1] rfl ?_
      refine j_ws (wXO o ax (sP S) ++ ([((ax 7), .inl (gI G, 7, .inl (sF S)))] ++ (wTP ax (nI (sL S + (kn - kn))) ++ [((ax 8), .inl (gB G, 120, .inl (fun k => bt ((fdT (sT S) (sL S) b kn (kn - kn)) k))))]))) (by rw [Nat.sub_self] <;> rfl) ?_
      exact L44 kn kn rfl (Nat.le_refl _)
    · skip
      refine j_aload_n 30 cx 0 dX5_feed_30 rfl ?_
      refine j_ldc 31 cx (v := -1000000002) (List.mem_of_getElem? (i := 4) rfl) dX5_feed_31 ?_
      refine j_callV_i 33 cx 1 [0, 1] [.int (fcode 1)] (fun _ => wXO o ax (sP S) ++ ([((ax 7), .inl (gI G, 7, .inl (upd (sF S) 1 ((sF S) 1 + 1))))] ++ (wTP ax (nI (sL S)) ++ [((ax 8), .inl (gB G, 120, .inl (fun k => bt ((sT S) k))))]))) (c_X5_finding (kl K) G o ax (sP S) (sF S) 1 (by decide)) gX5_feed_X5_finding rfl rfl rfl ⟨rfl, by decide, by decide, rfl⟩ ⟨Nat.le_of_ble_eq_true rfl, Nat.le_of_ble_eq_true rfl⟩ ⟨Nat.zero_le _, Nat.zero_le _⟩ rfl (by decide) (ci := 4) 0 rfl rfl rfl rfl rfl (Nat.le_of_ble_eq_true rfl) dX5_feed_33 (fun _ => rfl) (fun zu3 zk3 => ?_)
      refine j_top (fcode 1) rfl ?_
      have ze : (sp_feed b (nI kn) S) = bad S 1 := by unfold sp_feed; rw [if_pos zc1, if_pos (by rw [nI_add]; exact Int32.not_le.mp zc2)]
      exact fin () _ _ _ _ dX5_feed_36 rfl (by rw [ze] <;> rfl) (by rw [ze] <;> rfl) trivial
  · skip
    refine j_aload_n 9 cx 0 dX5_feed_9 rfl ?_
    refine j_ldc 10 cx (v := -1000000001) (List.mem_of_getElem? (i := 1) rfl) dX5_feed_10 ?_
    refine j_callV_i 12 cx 1 [0, 1] [.int (fcode 0)] (fun _ => wXO o ax (sP S) ++ ([((ax 7), .inl (gI G, 7, .inl (upd (sF S) 0 ((sF S) 0 + 1))))] ++ (wTP ax (nI (sL S)) ++ [((ax 8), .inl (gB G, 120, .inl (fun k => bt ((sT S) k))))]))) (c_X5_finding (kl K) G o ax (sP S) (sF S) 0 (by decide)) gX5_feed_X5_finding rfl rfl rfl ⟨rfl, by decide, by decide, rfl⟩ ⟨Nat.le_of_ble_eq_true rfl, Nat.le_of_ble_eq_true rfl⟩ ⟨Nat.zero_le _, Nat.zero_le _⟩ rfl (by decide) (ci := 4) 0 rfl rfl rfl rfl rfl (Nat.le_of_ble_eq_true rfl) dX5_feed_12 (fun _ => rfl) (fun zu4 zk4 => ?_)
    refine j_top (fcode 0) rfl ?_
    have ze : (sp_feed b n S) = bad S 0 := by unfold sp_feed; rw [if_neg (by rw [zc1]; decide)]
    exact fin () _ _ _ _ dX5_feed_15 rfl (by rw [ze] <;> rfl) (by rw [ze] <;> rfl) trivial
set_option maxRecDepth 100000 in
set_option maxHeartbeats 4000000 in
theorem c_X5_nursery (l : Launch) (G : pG) (o : Nat) (ax : Nat → Nat) (qh qt : Nat → Nat) (S : St) (τ : Nu) (tk st be nu : Int32) (hI : Inv (sN S)) (hT : okT (sT S)) (hL : sL S ≤ 120) : KI l G yX5_nursery wsX5_nursery ({ frames := 9, cells := 0, slots := 0, locals := 198 } : Room) [.ref o] (wXO o ax (sP S) ++ (wN G (ax 1) qh (sN S) ++ (wN G (ax 2) qt τ ++ (wRD ax tk st be nu ++ (wTP ax (nI (sL S)) ++ [((ax 8), .inl (gB G, 120, .inl (fun k => bt ((sT S) k))))]))))) (S := (Int32 × Int32 × Int32 × Int32 × Nu)) (fun _ => True) (fun u => (sp_nursery S).1) (fun u => wXO o ax (sP S) ++ (wN G (ax 1) qh (sN (sp_nursery S).2) ++ (wN G (ax 2) qt u.2.2.2.2 ++ (wRD ax (u.1) (u.2.1) (u.2.2.1) (u.2.2.2.1) ++ (wTP ax (nI (sL (sp_nursery S).2)) ++ [((ax 8), .inl (gB G, 120, .inl (fun k => bt ((sT (sp_nursery S).2) k))))]))))) := by
  refine ki_of [(0, .ref o)] (own := RX5) (cc := cX5_nursery) (nL := 3) (by decide +kernel) rfl rfl (Nat.le_of_ble_eq_true rfl) rfl (fun _ => rfl) (fun K cx fin => ?_)
  refine j_aload_n 0 cx 0 dX5_nursery_0 rfl ?_
  refine j_callV_q 1 cx 0 [0, 1, 2, 3, 4, 5, 6, 7, 8, 9, 10, 11, 12, 13, 14] [] (fun _ => wXO o ax (sP S) ++ (wN G (ax 1) qh (sN S) ++ (wN G (ax 2) qt (sN S) ++ (wRD ax tk st be nu ++ (wTP ax (nI (sL S)) ++ [((ax 8), .inl (gB G, 120, .inl (fun k => bt ((sT S) k))))]))))) (c_X5_rehearsal (kl K) G o ax (sP S) qh qt (sN S) τ) gX5_nursery_X5_rehearsal rfl rfl rfl ⟨rfl, by decide, by decide, rfl⟩ ⟨Nat.le_of_ble_eq_true rfl, Nat.le_of_ble_eq_true rfl⟩ ⟨Nat.zero_le _, Nat.zero_le _⟩ rfl (by decide) (ci := 4) 0 rfl rfl rfl rfl rfl (Nat.le_of_ble_eq_true rfl) dX5_nursery_1 (fun _ => rfl) (fun zu1 zk1 => ?_)
  refine j_st (st' := [.ref ((ax 2))]) rfl ?_
  refine j_astore_n 4 cx [(1, .ref ((ax 2))), (0, .ref o)] dX5_nursery_4 (by decide) rfl ?_
  refine j_aload_n 5 cx 1 dX5_nursery_5 rfl ?_
  refine j_get 6 cx 0 5 (T := TX5) (v := .ref ((ax 5))) (fun _ h => List.mem_cons_of_mem _ (List.mem_append_left _ (List.mem_append_left _ (List.mem_append_left _ (List.mem_append_right _ (h)))))) (List.mem_of_getElem? (i := 1) rfl) (ci := 4) rfl (by decide) rfl rfl rfl dX5_nursery_6 ?_
  refine j_aload_n 9 cx 0 dX5_nursery_9 rfl ?_
  refine j_callV_i 10 cx 1 [15, 16, 17, 8, 9, 10, 11, 12, 13, 14] [.ref ((ax 2))] (fun zu2 => wXO o ax (sP S) ++ (wN G (ax 1) qh (sN S) ++ (wN G (ax 2) qt zu2.2.2.2.2 ++ (wRD ax (zu2.1) (zu2.2.1) (zu2.2.2.1) (zu2.2.2.2.1) ++ (wTP ax (nI (sL S)) ++ [((ax 8), .inl (gB G, 120, .inl (fun k => bt ((sT S) k))))]))))) (c_X2_tell (kl K) G ax (sT S) (sL S) tk st be nu hT hL qt (sN S) hI) gX5_nursery_X2_tell rfl rfl rfl ⟨rfl, by decide, by decide, rfl⟩ ⟨Nat.le_of_ble_eq_true rfl, Nat.le_of_ble_eq_true rfl⟩ ⟨Nat.zero_le _, Nat.zero_le _⟩ rfl (by decide) (ci := 1) 0 rfl rfl rfl rfl rfl (Nat.le_of_ble_eq_true rfl) dX5_nursery_10 (fun _ => rfl) (fun zu2 zk2 => ?_)
  have huzu2 := zk2
  refine j_top ((tx0 (sT S) (sL S) (sN S)).1) rfl ?_
  refine j_istore_n 13 cx [(2, .int ((tx0 (sT S) (sL S) (sN S)).1)), (1, .ref ((ax 2))), (0, .ref o)] dX5_nursery_13 (by decide) rfl ?_
  refine j_aload_n 14 cx 2 dX5_nursery_14 rfl ?_
  refine j_get 15 cx 0 4 (T := TX5) (v := .ref ((ax 4))) (fun _ h => List.mem_cons_of_mem _ (List.mem_append_left _ (List.mem_append_left _ (List.mem_append_left _ (List.mem_append_right _ (h)))))) (List.mem_of_getElem? (i := 2) rfl) (ci := 4) rfl (by decide) rfl rfl rfl dX5_nursery_15 ?_
  refine j_iconst 18 cx 0 dX5_nursery_18 (by decide) ?_
  refine j_put 19 cx 16 1 (wXO o ax (sP S) ++ (wN G (ax 1) qh (sN S) ++ (wN G (ax 2) qt zu2.2.2.2.2 ++ (wRD ax (zu2.1) (zu2.2.1) (zu2.2.2.1) (zu2.2.2.2.1) ++ (wTP ax 0 ++ [((ax 8), .inl (gB G, 120, .inl (fun k => bt ((sT S) k))))]))))) (T := TX4) (ty0 := tyX4) (fun _ h => List.mem_cons_of_mem _ (List.mem_append_left _ (List.mem_append_left _ (List.mem_append_right _ (h))))) (List.mem_of_getElem? (i := 3) rfl) (ci := 3) rfl (by decide) rfl tyX4_ok nmX4 rfl rfl rfl rfl (Nat.le_of_ble_eq_true rfl) rfl dX5_nursery_19 ?_
  refine j_iload_n 22 cx 0 dX5_nursery_22 rfl ?_
  refine j_if_lt 23 cx 34 dX5_nursery_23 (by decide) (fun zc1 => ?_) (fun zc1 => ?_)
  · skip
    refine j_iload_n 34 cx 0 dX5_nursery_34 rfl ?_
    have e9 : sN (sp_nursery S).2 = sN S := tx_f zc1
    exact fin zu2 _ _ _ _ dX5_nursery_35 rfl rfl (by rw [e9] <;> rfl) trivial
  · skip
    refine j_aload_n 26 cx 2 dX5_nursery_26 rfl ?_
    refine j_get 27 cx 0 0 (T := TX5) (v := .ref ((ax 1))) (fun _ h => List.mem_cons_of_mem _ (List.mem_append_left _ (List.mem_append_left _ (List.mem_append_left _ (List.mem_append_right _ (h)))))) (List.mem_of_getElem? (i := 4) rfl) (ci := 4) rfl (by decide) rfl rfl rfl dX5_nursery_27 ?_
    refine j_aload_n 30 cx 1 dX5_nursery_30 rfl ?_
    refine j_callV_v 31 cx 1 [1, 2, 3, 4, 5, 6, 7, 8, 9, 10, 11, 12, 13, 14] [.ref ((ax 2))] (fun _ => wXO o ax (sP S) ++ (wN G (ax 1) qh zu2.2.2.2.2 ++ (wN G (ax 2) qt zu2.2.2.2.2 ++ (wRD ax (zu2.1) (zu2.2.1) (zu2.2.2.1) (zu2.2.2.2.1) ++ (wTP ax 0 ++ [((ax 8), .inl (gB G, 120, .inl (fun k => bt ((sT S) k))))]))))) (c_X1_become (kl K) G (ax 1) qh (sN S) (ax 2) qt zu2.2.2.2.2) gX5_nursery_X1_become rfl rfl rfl ⟨rfl, by decide, by decide, rfl⟩ ⟨Nat.le_of_ble_eq_true rfl, Nat.le_of_ble_eq_true rfl⟩ ⟨Nat.zero_le _, Nat.zero_le _⟩ rfl (by decide) (ci := 0) 0 rfl rfl rfl rfl rfl (Nat.le_of_ble_eq_true rfl) dX5_nursery_31 (fun _ => rfl) (fun zu4 zk3 => ?_)
    refine j_iload_n 34 cx 0 dX5_nursery_34 rfl ?_
    have e9 : sN (sp_nursery S).2 = zu2.2.2.2.2 := (huzu2 zc1).symm
    exact fin zu2 _ _ _ _ dX5_nursery_35 rfl rfl (by rw [e9] <;> rfl) trivial
