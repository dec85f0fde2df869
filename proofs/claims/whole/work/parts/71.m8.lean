set_option maxRecDepth 100000 in
set_option maxHeartbeats 4000000 in
theorem c_X6_feed (l : Launch) (G : pG) (o : Nat) (am : Nat → Nat) (S : St) (la tk be an va : Int32) (bd : Bool) (hL : sL S ≤ 120) (b n : Int32) : KI l G yX6_feed wsX6_feed ({ frames := 1, cells := 0, slots := 0, locals := 23 } : Room) [.ref o, .int b, .int n] (wMO o am (sP S) la (nI (sL S)) tk be an va bd ++ ([((am 3), .inl (gI G, 7, .inl (sF S)))] ++ [((am 4), .inl (gI G, 120, .inl (sT S)))])) (S := Unit) (fun _ => True) (fun u => (sp_feed b n S).1) (fun u => wMO o am (sP S) la (nI (sL (sp_feed b n S).2)) tk be an va bd ++ ([((am 3), .inl (gI G, 7, .inl (sF (sp_feed b n S).2)))] ++ [((am 4), .inl (gI G, 120, .inl (sT (sp_feed b n S).2)))])) := by
  refine ki_of [(0, .ref o), (1, .int b), (2, .int n)] (own := RX6) (cc := cX6_feed) (nL := 4) (by decide +kernel) rfl rfl (Nat.le_of_ble_eq_true rfl) rfl (fun _ => Eq.trans (b := [o, am 3, am 4]) rfl rfl) (fun K cx fin => ?_)
  refine j_iload_n 0 cx 2 dX6_feed_0 rfl ?_
  refine j_i2l 1 cx dX6_feed_1 ?_
  refine j_iconst 2 cx 1 dX6_feed_2 (by decide) ?_
  refine j_iconst 3 cx 4 dX6_feed_3 (by decide) ?_
  refine j_callS_i 4 cx 3 [] [.long (n.toInt64), .int 1, .int 4] (fun _ => wMO o am (sP S) la (nI (sL S)) tk be an va bd ++ ([((am 3), .inl (gI G, 7, .inl (sF S)))] ++ [((am 4), .inl (gI G, 120, .inl (sT S)))])) (c_X6_in (kl K) G (n.toInt64) 1 4) gX6_feed_X6_in rfl rfl rfl ⟨by decide, by decide, rfl⟩ ⟨Nat.le_of_ble_eq_true rfl, Nat.le_of_ble_eq_true rfl⟩ ⟨Nat.zero_le _, Nat.zero_le _⟩ rfl (by decide) rfl rfl (Nat.le_of_ble_eq_true rfl) dX6_feed_4 (fun _ => rfl) (fun zu1 zk1 => ?_)
  refine j_top (bI (inL (n.toInt64) 1 4)) rfl ?_
  refine j_top (bI (inI n 1 4)) (congrArg bI (inL_i n 1 4)) ?_
  refine j_ifB_ne 7 cx 17 dX6_feed_7 (by decide) (fun zc1 => ?_) (fun zc1 => ?_)
  · skip
    obtain ⟨kn, hkn1, hkn2, rfl⟩ := in_c (L := 1) (M := 4) (a := 1) (m := 4) rfl rfl zc1
    have hckn : (nI kn).toNatClampNeg = kn := nI_clamp (by omega)
    refine j_aload_n 17 cx 0 dX6_feed_17 rfl ?_
    refine j_get 18 cx 0 7 (T := TX6) (v := .int (nI (sL S))) (fun _ h => List.mem_cons_of_mem _ (List.mem_append_right _ (h))) (List.mem_of_getElem? (i := 2) rfl) (ci := 5) rfl (by decide) rfl rfl rfl dX6_feed_18 ?_
    refine j_iload_n 21 cx 2 dX6_feed_21 rfl ?_
    refine j_iadd 22 cx dX6_feed_22 ?_
    refine j_top (nI (sL S + kn)) (nI_add (sL S) kn) ?_
    refine j_bipush 23 cx 120 dX6_feed_23 (by decide) ?_
    refine j_icmp_le 25 cx 35 dX6_feed_25 (by decide) (fun zc2 => ?_) (fun zc2 => ?_)
    · skip
      have hle : sL S + kn ≤ 120 := by have h9 := mt (nI_ltI (a := 120) (b := sL S + kn) (by omega) (by omega)).mpr (Int32.not_lt.mpr zc2); omega
      refine j_iload_n 35 cx 2 dX6_feed_35 rfl ?_
      refine j_iconst 36 cx 1 dX6_feed_36 (by decide) ?_
      refine j_isub 37 cx dX6_feed_37 ?_
      refine j_top (nI kn - 1) rfl ?_
      refine j_istore_n 38 cx [(3, .int (nI kn - 1)), (0, .ref o), (1, .int b), (2, .int (nI kn))] dX6_feed_38 (by decide) rfl ?_
      have L39 : ∀ d : Nat, ∀ (x : Nat), (x = d) → (x ≤ kn) → JJ G K 0 0 (wMO o am (sP S) la (nI (sL S + (kn - x))) tk be an va bd ++ ([((am 3), .inl (gI G, 7, .inl (sF S)))] ++ [((am 4), .inl (gI G, 120, .inl (fdT (sT S) (sL S) b kn (kn - x))))])) [(3, .int (nI x - 1)), (2, .int (nI kn)), (1, .int b), (0, .ref o)] 39 [] := by
        intro d
        induction d with
        | zero =>
          intro x hx hxk
          subst hx
          rw [show nI 0 - 1 = -1 from rfl]
          refine j_iload_n 39 cx 0 dX6_feed_39 rfl ?_
          refine j_if_lt_T 40 cx 78 dX6_feed_40 (by decide) (by decide) ?_
          refine j_aload_n 78 cx 3 dX6_feed_78 rfl ?_
          refine j_get 79 cx 0 7 (T := TX6) (v := .int (nI (sL S + kn))) (fun _ h => List.mem_cons_of_mem _ (List.mem_append_right _ (h))) (List.mem_of_getElem? (i := 2) rfl) (ci := 5) rfl (by decide) rfl rfl rfl dX6_feed_79 ?_
          have ze : (sp_feed b (nI kn) S) = (nI (sL S + kn), stT S (fdT (sT S) (sL S) b kn kn) (sL S + kn)) := by unfold sp_feed; rw [if_pos zc1, if_neg (by rw [nI_add]; exact Int32.not_lt.mpr zc2), show pN (nI kn) = kn from hckn]
          exact fin () _ _ _ _ dX6_feed_82 rfl (by rw [ze] <;> rfl) (by rw [ze] <;> rfl) trivial
        | succ d ih39 =>
          intro x hx hxk
          subst hx
          rw [nI_s1]
          refine j_iload_n 39 cx 0 dX6_feed_39 rfl ?_
          refine j_if_lt_F 40 cx 78 dX6_feed_40 (by decide) (nI_pos (by omega)) ?_
          refine j_aload_n 43 cx 3 dX6_feed_43 rfl ?_
          refine j_get 44 cx 0 6 (T := TX6) (v := .ref ((am 4))) (fun _ h => List.mem_cons_of_mem _ (List.mem_append_right _ (h))) (List.mem_of_getElem? (i := 4) rfl) (ci := 5) rfl (by decide) rfl rfl rfl dX6_feed_44 ?_
          refine j_aload_n 47 cx 3 dX6_feed_47 rfl ?_
          refine j_get 48 cx 0 7 (T := TX6) (v := .int (nI (sL S + (kn - (d + 1))))) (fun _ h => List.mem_cons_of_mem _ (List.mem_append_right _ (h))) (List.mem_of_getElem? (i := 2) rfl) (ci := 5) rfl (by decide) rfl rfl rfl dX6_feed_48 ?_
          refine j_iload_n 51 cx 2 dX6_feed_51 rfl ?_
          refine j_bipush 52 cx 8 dX6_feed_52 (by decide) ?_
          refine j_iload_n 54 cx 0 dX6_feed_54 rfl ?_
          refine j_imul 55 cx dX6_feed_55 ?_
          refine j_top (nI (8 * d)) (pk_mul 8 d) ?_
          refine j_ishr 56 cx dX6_feed_56 ?_
          refine j_sipush 57 cx 255 dX6_feed_57 (by decide) ?_
          refine j_iand 60 cx dX6_feed_60 ?_
          refine j_iast 61 cx 2 (sL S + (kn - (d + 1))) (wMO o am (sP S) la (nI (sL S + (kn - (d + 1)))) tk be an va bd ++ ([((am 3), .inl (gI G, 7, .inl (sF S)))] ++ [((am 4), .inl (gI G, 120, .inl (upd (fdT (sT S) (sL S) b kn (kn - (d + 1))) (sL S + (kn - (d + 1))) ((b >>> ((nI (8 * d)) &&& 31)) &&& 255))))])) rfl rfl (by omega) (by decide) rfl dX6_feed_61 ?_
          refine j_aload_n 62 cx 3 dX6_feed_62 rfl ?_
          refine j_dup 63 cx dX6_feed_63 rfl ?_
          refine j_get 64 cx 0 7 (T := TX6) (v := .int (nI (sL S + (kn - (d + 1))))) (fun _ h => List.mem_cons_of_mem _ (List.mem_append_right _ (h))) (List.mem_of_getElem? (i := 2) rfl) (ci := 5) rfl (by decide) rfl rfl rfl dX6_feed_64 ?_
          refine j_iconst 67 cx 1 dX6_feed_67 (by decide) ?_
          refine j_iadd 68 cx dX6_feed_68 ?_
          refine j_top (nI (sL S + (kn - (d + 1)) + 1)) (nI_add (sL S + (kn - (d + 1))) 1) ?_
          refine j_put 69 cx 0 7 (wMO o am (sP S) la (nI (sL S + (kn - (d + 1)) + 1)) tk be an va bd ++ ([((am 3), .inl (gI G, 7, .inl (sF S)))] ++ [((am 4), .inl (gI G, 120, .inl (upd (fdT (sT S) (sL S) b kn (kn - (d + 1))) (sL S + (kn - (d + 1))) ((b >>> ((nI (8 * d)) &&& 31)) &&& 255))))])) (T := TX6) (ty0 := tyX6) (fun _ h => List.mem_cons_of_mem _ (List.mem_append_right _ (h))) (List.mem_of_getElem? (i := 2) rfl) (ci := 5) rfl (by decide) rfl tyX6_ok nmX6 rfl rfl rfl rfl (Nat.le_of_ble_eq_true rfl) rfl dX6_feed_69 ?_
          refine j_iinc 72 cx [(3, .int (nI d - 1)), (2, .int (nI kn)), (1, .int b), (0, .ref o)] 0 (nI d - 1) dX6_feed_72 rfl (i_m1 _) (by decide) rfl ?_
          refine j_goto 75 cx 39 dX6_feed_75 (by decide) ?_
          have h9 := ih39 d rfl (by omega)
          rw [← fd_s (d := d) (x := d + 1) rfl hxk, show sL S + (kn - d) = sL S + (kn - (d + 1)) + 1 from by omega] at h9
          exact h9
      refine j_lv [0, 3, 2, 1] rfl ?_
      refine j_ws (wMO o am (sP S) la (nI (sL S + (kn - kn))) tk be an va bd ++ ([((am 3), .inl (gI G, 7, .inl (sF S)))] ++ [((am 4), .inl (gI G, 120, .inl (fdT (sT S) (sL S) b kn (kn - kn))))])) (by rw [Nat.sub_self] <;> rfl) ?_
      exact L39 kn kn rfl (Nat.le_refl _)
    · skip
      refine j_aload_n 28 cx 0 dX6_feed_28 rfl ?_
      refine j_ldc 29 cx (v := -1000000002) (List.mem_of_getElem? (i := 3) rfl) dX6_feed_29 ?_
      refine j_callV_i 31 cx 1 [0, 1] [.int (fcode 1)] (fun _ => wMO o am (sP S) la (nI (sL S)) tk be an va bd ++ ([((am 3), .inl (gI G, 7, .inl (upd (sF S) 1 ((sF S) 1 + 1))))] ++ [((am 4), .inl (gI G, 120, .inl (sT S)))])) (c_X6_finds (kl K) G o am (sP S) la (nI (sL S)) tk be an va bd (sF S) 1 (by decide)) gX6_feed_X6_finds rfl rfl rfl ⟨rfl, by decide, by decide, rfl⟩ ⟨Nat.le_of_ble_eq_true rfl, Nat.le_of_ble_eq_true rfl⟩ ⟨Nat.zero_le _, Nat.zero_le _⟩ rfl (by decide) (ci := 5) 0 rfl rfl rfl rfl rfl (Nat.le_of_ble_eq_true rfl) dX6_feed_31 (fun _ => rfl) (fun zu2 zk2 => ?_)
      refine j_top (fcode 1) rfl ?_
      have ze : (sp_feed b (nI kn) S) = bad S 1 := by unfold sp_feed; rw [if_pos zc1, if_pos (by rw [nI_add]; exact Int32.not_le.mp zc2)]
      exact fin () _ _ _ _ dX6_feed_34 rfl (by rw [ze] <;> rfl) (by rw [ze] <;> rfl) trivial
  · skip
    refine j_aload_n 10 cx 0 dX6_feed_10 rfl ?_
    refine j_ldc 11 cx (v := -1000000001) (List.mem_of_getElem? (i := 1) rfl) dX6_feed_11 ?_
    refine j_callV_i 13 cx 1 [0, 1] [.int (fcode 0)] (fun _ => wMO o am (sP S) la (nI (sL S)) tk be an va bd ++ ([((am 3), .inl (gI G, 7, .inl (upd (sF S) 0 ((sF S) 0 + 1))))] ++ [((am 4), .inl (gI G, 120, .inl (sT S)))])) (c_X6_finds (kl K) G o am (sP S) la (nI (sL S)) tk be an va bd (sF S) 0 (by decide)) gX6_feed_X6_finds rfl rfl rfl ⟨rfl, by decide, by decide, rfl⟩ ⟨Nat.le_of_ble_eq_true rfl, Nat.le_of_ble_eq_true rfl⟩ ⟨Nat.zero_le _, Nat.zero_le _⟩ rfl (by decide) (ci := 5) 0 rfl rfl rfl rfl rfl (Nat.le_of_ble_eq_true rfl) dX6_feed_13 (fun _ => rfl) (fun zu3 zk3 => ?_)
    refine j_top (fcode 0) rfl ?_
    have ze : (sp_feed b n S) = bad S 0 := by unfold sp_feed; rw [if_neg (by rw [zc1]; decide)]
    exact fin () _ _ _ _ dX6_feed_16 rfl (by rw [ze] <;> rfl) (by rw [ze] <;> rfl) trivial
set_option maxRecDepth 100000 in
set_option maxHeartbeats 4000000 in
theorem c_X6_nurseryM (l : Launch) (G : pG) (o : Nat) (am : Nat → Nat) (ik : Bool) (la tk be an va : Int32) (bd : Bool) (t : TF) (n : Nat) (hT : okT t) (hn : n ≤ 120) (σ0 ω : Nu) (hI0 : Inv σ0)  : KI l G yX6_nursery wsX6_nursery ({ frames := 7, cells := 0, slots := 0, locals := 160 } : Room) [.ref o] (wMO o am ik la (nI n) tk be an va bd ++ ([((am 4), .inl (gI G, 120, .inl t))] ++ ([((am 0), .inl (gI G, 51, .inl (mm σ0)))] ++ [((am 2), .inl (gI G, 51, .inl (mm ω)))]))) (S := (Int32 × Int32 × Int32 × Int32 × Bool)) (fun _ => True) (fun u => (tx0 t n σ0).1) (fun u => wMO o am ik la 0 (u.1) (u.2.1) (u.2.2.1) (u.2.2.2.1) (u.2.2.2.2) ++ ([((am 4), .inl (gI G, 120, .inl t))] ++ ([((am 0), .inl (gI G, 51, .inl (mm (tx0 t n σ0).2)))] ++ [((am 2), .inl (gI G, 51, .inl (mm σ0)))]))) := by
  refine ki_of [(0, .ref o)] (own := RX6) (cc := cX6_nursery) (nL := 2) (by decide +kernel) rfl rfl (Nat.le_of_ble_eq_true rfl) rfl (fun _ => rfl) (fun K cx fin => ?_)
  refine j_aload_n 0 cx 0 dX6_nursery_0 rfl ?_
  refine j_callV_v 1 cx 0 [0, 2, 3] [] (fun _ => wMO o am ik la (nI n) tk be an va bd ++ ([((am 4), .inl (gI G, 120, .inl t))] ++ ([((am 0), .inl (gI G, 51, .inl (mm σ0)))] ++ [((am 2), .inl (gI G, 51, .inl (mm σ0)))]))) (c_X6_thinks (kl K) G o am ik la (nI n) tk be an va bd σ0 ω) gX6_nursery_X6_thinks rfl rfl rfl ⟨rfl, by decide, by decide, rfl⟩ ⟨Nat.le_of_ble_eq_true rfl, Nat.le_of_ble_eq_true rfl⟩ ⟨Nat.zero_le _, Nat.zero_le _⟩ rfl (by decide) (ci := 5) 0 rfl rfl rfl rfl rfl (Nat.le_of_ble_eq_true rfl) dX6_nursery_1 (fun _ => rfl) (fun zu1 zk1 => ?_)
  refine j_aload_n 4 cx 0 dX6_nursery_4 rfl ?_
  refine j_iconst 5 cx 0 dX6_nursery_5 (by decide) ?_
  refine j_put 6 cx 0 10 (wMO o am ik la (nI n) tk be 0 va bd ++ ([((am 4), .inl (gI G, 120, .inl t))] ++ ([((am 0), .inl (gI G, 51, .inl (mm σ0)))] ++ [((am 2), .inl (gI G, 51, .inl (mm σ0)))]))) (T := TX6) (ty0 := tyX6) (fun _ h => List.mem_cons_of_mem _ (List.mem_append_right _ (h))) (List.mem_of_getElem? (i := 1) rfl) (ci := 5) rfl (by decide) rfl tyX6_ok nmX6 rfl rfl rfl rfl (Nat.le_of_ble_eq_true rfl) rfl dX6_nursery_6 ?_
  refine j_aload_n 9 cx 0 dX6_nursery_9 rfl ?_
  refine j_iconst 10 cx 0 dX6_nursery_10 (by decide) ?_
  refine j_put 11 cx 0 12 (wMO o am ik la (nI n) tk be 0 va false ++ ([((am 4), .inl (gI G, 120, .inl t))] ++ ([((am 0), .inl (gI G, 51, .inl (mm σ0)))] ++ [((am 2), .inl (gI G, 51, .inl (mm σ0)))]))) (T := TX6) (ty0 := tyX6) (fun _ h => List.mem_cons_of_mem _ (List.mem_append_right _ (h))) (List.mem_of_getElem? (i := 2) rfl) (ci := 5) rfl (by decide) rfl tyX6_ok nmX6 rfl rfl rfl rfl (Nat.le_of_ble_eq_true rfl) rfl dX6_nursery_11 ?_
  refine j_aload_n 14 cx 0 dX6_nursery_14 rfl ?_
  refine j_callV_v 15 cx 0 [0, 1] [] (fun _ => wMO o am ik la (nI n) (nI (mT (rK (rdT t n 0)))) (nI (rB (rdT t n 0))) (nI (rA (rdT t n 0))) (nI (rV (rdT t n 0))) false ++ ([((am 4), .inl (gI G, 120, .inl t))] ++ ([((am 0), .inl (gI G, 51, .inl (mm σ0)))] ++ [((am 2), .inl (gI G, 51, .inl (mm σ0)))]))) (c_X6_reads (kl K) G o am ik la tk be va false t n 0 hT hn (Nat.zero_le _)) gX6_nursery_X6_reads rfl rfl rfl ⟨rfl, by decide, by decide, rfl⟩ ⟨Nat.le_of_ble_eq_true rfl, Nat.le_of_ble_eq_true rfl⟩ ⟨Nat.zero_le _, Nat.zero_le _⟩ rfl (by decide) (ci := 5) 0 rfl rfl rfl rfl rfl (Nat.le_of_ble_eq_true rfl) dX6_nursery_15 (fun _ => rfl) (fun zu2 zk2 => ?_)
  refine j_aload_n 18 cx 0 dX6_nursery_18 rfl ?_
  refine j_callV_v 19 cx 0 [0, 1, 2] [] (fun zs1 => wMO o am ik la (nI n) (nI (mT (rK (iIt t n (rdT t n 0) σ0).2.1))) (nI (rB (iIt t n (rdT t n 0) σ0).2.1)) (nI (rA (iIt t n (rdT t n 0) σ0).2.1)) (nI (rV (iIt t n (rdT t n 0) σ0).2.1)) (!(iIt t n (rdT t n 0) σ0).1) ++ ([((am 4), .inl (gI G, 120, .inl t))] ++ ([((am 0), .inl (gI G, 51, .inl (mm zs1)))] ++ [((am 2), .inl (gI G, 51, .inl (mm σ0)))]))) (c_X6_item (kl K) G o am ik la t n (rdT t n 0) hT hn (⟨0, Nat.zero_le _, rfl⟩ : RW t n (rdT t n 0)) σ0 hI0) gX6_nursery_X6_item rfl rfl rfl ⟨rfl, by decide, by decide, rfl⟩ ⟨Nat.le_of_ble_eq_true rfl, Nat.le_of_ble_eq_true rfl⟩ ⟨Nat.zero_le _, Nat.zero_le _⟩ rfl (by decide) (ci := 5) 0 rfl rfl rfl rfl rfl (Nat.le_of_ble_eq_true rfl) dX6_nursery_19 (fun _ => rfl) (fun zs1 zk3 => ?_)
  have hszs1 := zk3
  refine j_iconst 22 cx 1 dX6_nursery_22 (by decide) ?_
  refine j_istore_n 23 cx [(1, .int 1), (0, .ref o)] dX6_nursery_23 (by decide) rfl ?_
  have L24 : ∀ d : Nat, ∀ (i : Nat) (r : RT) (σ s : Nu), (i + d = 120) → (1 ≤ i) → (RW t n r) → (Inv σ) → ((iIt t n r σ).1 = true → s = (iIt t n r σ).2.2) → (2 * i ≤ rA r + 2) → ((tx0 t n σ0) = txT t n σ0 d i r σ) → JJ G K 0 0 (wMO o am ik la (nI n) (nI (mT (rK (iIt t n r σ).2.1))) (nI (rB (iIt t n r σ).2.1)) (nI (rA (iIt t n r σ).2.1)) (nI (rV (iIt t n r σ).2.1)) (!(iIt t n r σ).1) ++ ([((am 4), .inl (gI G, 120, .inl t))] ++ ([((am 0), .inl (gI G, 51, .inl (mm s)))] ++ [((am 2), .inl (gI G, 51, .inl (mm σ0)))]))) [(1, .int (nI i)), (0, .ref o)] 24 [] := by
    intro d
    induction d with
    | zero =>
      intro i r σ s hi hi1 hr hI hs hB hT9
      exact absurd hr.an (by omega)
    | succ d ih24 =>
      intro i r σ s hi hi1 hr hI hs hB hT9
      refine j_aload_n 24 cx 1 dX6_nursery_24 rfl ?_
      rcases bcase ((iIt t n r σ).1) with zc1 | zc1
      · skip
        refine j_bipush 25 cx 21 dX6_nursery_25 (by decide) ?_
        refine j_ws (wMO o am ik la (nI n) (nI (mT (rK (iIt t n r σ).2.1))) (nI (rB (iIt t n r σ).2.1)) (nI (rA (iIt t n r σ).2.1)) (nI (rV (iIt t n r σ).2.1)) false ++ ([((am 4), .inl (gI G, 120, .inl t))] ++ ([((am 0), .inl (gI G, 51, .inl (mm (iIt t n r σ).2.2)))] ++ [((am 2), .inl (gI G, 51, .inl (mm σ0)))]))) (by rw [hs zc1, zc1] <;> rfl) ?_
        rcases bcase (decide (rK (iIt t n r σ).2.1 = 21)) with zc2 | zc2
        · skip
          refine j_callV_i 27 cx 1 [0, 1] [.int 21] (fun _ => wMO o am ik la (nI n) (nI (mT (rK (nx t n (iIt t n r σ).2.1)))) (nI (rB (nx t n (iIt t n r σ).2.1))) (nI (rA (nx t n (iIt t n r σ).2.1))) (nI (rV (nx t n (iIt t n r σ).2.1))) false ++ ([((am 4), .inl (gI G, 120, .inl t))] ++ ([((am 0), .inl (gI G, 51, .inl (mm (iIt t n r σ).2.2)))] ++ [((am 2), .inl (gI G, 51, .inl (mm σ0)))]))) (c_X6_passes_t (kl K) G o am ik la t n (iIt t n r σ).2.1 hT hn (iIt_v hr (σ := σ)).1 21 (by decide) (of_decide_eq_true zc2)) gX6_nursery_X6_passes rfl rfl rfl ⟨rfl, by decide, by decide, rfl⟩ ⟨Nat.le_of_ble_eq_true rfl, Nat.le_of_ble_eq_true rfl⟩ ⟨Nat.zero_le _, Nat.zero_le _⟩ rfl (by decide) (ci := 5) 0 rfl rfl rfl rfl rfl (Nat.le_of_ble_eq_true rfl) dX6_nursery_27 (fun _ => rfl) (fun zu4 zk4 => ?_)
          refine j_top (1) rfl ?_
          refine j_if_eq_F 30 cx 43 dX6_nursery_30 (by decide) (by decide) ?_
          refine j_aload_n 33 cx 1 dX6_nursery_33 rfl ?_
          refine j_callV_v 34 cx 0 [0, 1, 2] [] (fun zs2 => wMO o am ik la (nI n) (nI (mT (rK (iIt t n (nx t n (iIt t n r σ).2.1) (iIt t n r σ).2.2).2.1))) (nI (rB (iIt t n (nx t n (iIt t n r σ).2.1) (iIt t n r σ).2.2).2.1)) (nI (rA (iIt t n (nx t n (iIt t n r σ).2.1) (iIt t n r σ).2.2).2.1)) (nI (rV (iIt t n (nx t n (iIt t n r σ).2.1) (iIt t n r σ).2.2).2.1)) (!(iIt t n (nx t n (iIt t n r σ).2.1) (iIt t n r σ).2.2).1) ++ ([((am 4), .inl (gI G, 120, .inl t))] ++ ([((am 0), .inl (gI G, 51, .inl (mm zs2)))] ++ [((am 2), .inl (gI G, 51, .inl (mm σ0)))]))) (c_X6_item (kl K) G o am ik la t n (nx t n (iIt t n r σ).2.1) hT hn (iIt_v hr (σ := σ)).1.nxt (iIt t n r σ).2.2 (iIt_inv hI)) gX6_nursery_X6_item rfl rfl rfl ⟨rfl, by decide, by decide, rfl⟩ ⟨Nat.le_of_ble_eq_true rfl, Nat.le_of_ble_eq_true rfl⟩ ⟨Nat.zero_le _, Nat.zero_le _⟩ rfl (by decide) (ci := 5) 0 rfl rfl rfl rfl rfl (Nat.le_of_ble_eq_true rfl) dX6_nursery_34 (fun _ => rfl) (fun zs2 zk5 => ?_)
          have hszs2 := zk5
          refine j_iinc 37 cx [(1, .int (nI (i + 1))), (0, .ref o)] 0 (nI (i + 1)) dX6_nursery_37 rfl (iinc1 i) (by decide) rfl ?_
          refine j_goto 40 cx 24 dX6_nursery_40 (by decide) ?_
          have hk21 := of_decide_eq_true zc2
          have hq9 := iIt_v hr (σ := σ)
          have ha9 := hq9.2 zc1 (by omega)
          have hs9 := hq9.1.step
          have hb9 := hq9.1.nxt.ba
          exact ih24 (i + 1) (nx t n (iIt t n r σ).2.1) (iIt t n r σ).2.2 zs2 (by omega) (by omega) hq9.1.nxt (iIt_inv hI) hszs2 (by omega) (by rw [hT9, txT, if_neg (fun q => by have h9 := q.2; omega), if_pos ⟨zc1, hk21⟩])
        · skip
          refine j_callV_i 27 cx 1 [0, 1] [.int 21] (fun _ => wMO o am ik la (nI n) (nI (mT (rK (iIt t n r σ).2.1))) (nI (rB (iIt t n r σ).2.1)) (nI (rA (iIt t n r σ).2.1)) (nI (rV (iIt t n r σ).2.1)) false ++ ([((am 4), .inl (gI G, 120, .inl t))] ++ ([((am 0), .inl (gI G, 51, .inl (mm (iIt t n r σ).2.2)))] ++ [((am 2), .inl (gI G, 51, .inl (mm σ0)))]))) (c_X6_passes_f (kl K) G o am ik la t n (iIt t n r σ).2.1 hT hn (iIt_v hr (σ := σ)).1 21 (by decide) (of_decide_eq_false zc2)) gX6_nursery_X6_passes rfl rfl rfl ⟨rfl, by decide, by decide, rfl⟩ ⟨Nat.le_of_ble_eq_true rfl, Nat.le_of_ble_eq_true rfl⟩ ⟨Nat.zero_le _, Nat.zero_le _⟩ rfl (by decide) (ci := 5) 0 rfl rfl rfl rfl rfl (Nat.le_of_ble_eq_true rfl) dX6_nursery_27 (fun _ => rfl) (fun zu6 zk6 => ?_)
          refine j_top (0) rfl ?_
          refine j_if_eq_T 30 cx 43 dX6_nursery_30 (by decide) (by decide) ?_
          refine j_aload_n 43 cx 1 dX6_nursery_43 rfl ?_
          refine j_aload_n 44 cx 1 dX6_nursery_44 rfl ?_
          refine j_get 45 cx 0 12 (T := TX6) (v := .int (bI (false))) (fun _ h => List.mem_cons_of_mem _ (List.mem_append_right _ (h))) (List.mem_of_getElem? (i := 2) rfl) (ci := 5) rfl (by decide) rfl rfl rfl dX6_nursery_45 ?_
          refine j_if_ne_F 48 cx 60 dX6_nursery_48 (by decide) rfl ?_
          rcases bcase (decide (rK (iIt t n r σ).2.1 = 22)) with zc3 | zc3
          · skip
            refine j_aload_n 51 cx 1 dX6_nursery_51 rfl ?_
            refine j_get 52 cx 0 8 (T := TX6) (v := .int (nI (mT (rK (iIt t n r σ).2.1)))) (fun _ h => List.mem_cons_of_mem _ (List.mem_append_right _ (h))) (List.mem_of_getElem? (i := 3) rfl) (ci := 5) rfl (by decide) rfl rfl rfl dX6_nursery_52 ?_
            refine j_bipush 55 cx 22 dX6_nursery_55 (by decide) ?_
            refine j_icmp_eq_T 57 cx 64 dX6_nursery_57 (by decide) (mT_w (of_decide_eq_true zc3) (by decide)) ?_
            refine j_iconst 64 cx 0 dX6_nursery_64 (by decide) ?_
            refine j_put 65 cx 0 12 (wMO o am ik la (nI n) (nI (mT (rK (iIt t n r σ).2.1))) (nI (rB (iIt t n r σ).2.1)) (nI (rA (iIt t n r σ).2.1)) (nI (rV (iIt t n r σ).2.1)) false ++ ([((am 4), .inl (gI G, 120, .inl t))] ++ ([((am 0), .inl (gI G, 51, .inl (mm (iIt t n r σ).2.2)))] ++ [((am 2), .inl (gI G, 51, .inl (mm σ0)))]))) (T := TX6) (ty0 := tyX6) (fun _ h => List.mem_cons_of_mem _ (List.mem_append_right _ (h))) (List.mem_of_getElem? (i := 2) rfl) (ci := 5) rfl (by decide) rfl tyX6_ok nmX6 rfl rfl rfl rfl (Nat.le_of_ble_eq_true rfl) rfl dX6_nursery_65 ?_
            refine j_aload_n 68 cx 1 dX6_nursery_68 rfl ?_
            refine j_iconst 69 cx 0 dX6_nursery_69 (by decide) ?_
            refine j_put 70 cx 0 7 (wMO o am ik la 0 (nI (mT (rK (iIt t n r σ).2.1))) (nI (rB (iIt t n r σ).2.1)) (nI (rA (iIt t n r σ).2.1)) (nI (rV (iIt t n r σ).2.1)) false ++ ([((am 4), .inl (gI G, 120, .inl t))] ++ ([((am 0), .inl (gI G, 51, .inl (mm (iIt t n r σ).2.2)))] ++ [((am 2), .inl (gI G, 51, .inl (mm σ0)))]))) (T := TX6) (ty0 := tyX6) (fun _ h => List.mem_cons_of_mem _ (List.mem_append_right _ (h))) (List.mem_of_getElem? (i := 4) rfl) (ci := 5) rfl (by decide) rfl tyX6_ok nmX6 rfl rfl rfl rfl (Nat.le_of_ble_eq_true rfl) rfl dX6_nursery_70 ?_
            refine j_aload_n 73 cx 1 dX6_nursery_73 rfl ?_
            refine j_get 74 cx 0 12 (T := TX6) (v := .int (bI (false))) (fun _ h => List.mem_cons_of_mem _ (List.mem_append_right _ (h))) (List.mem_of_getElem? (i := 2) rfl) (ci := 5) rfl (by decide) rfl rfl rfl dX6_nursery_74 ?_
            refine j_if_ne_F 77 cx 82 dX6_nursery_77 (by decide) rfl ?_
            refine j_iload_n 80 cx 0 dX6_nursery_80 rfl ?_
            have ze : (tx0 t n σ0) = (nI i, (iIt t n r σ).2.2) := by rw [hT9, txT, if_pos ⟨zc1, of_decide_eq_true zc3⟩]
            exact fin ((nI (mT (rK (iIt t n r σ).2.1))), (nI (rB (iIt t n r σ).2.1)), (nI (rA (iIt t n r σ).2.1)), (nI (rV (iIt t n r σ).2.1)), false) _ _ _ _ dX6_nursery_81 rfl (by rw [ze] <;> rfl) (by rw [ze] <;> rfl) trivial
          · skip
            refine j_aload_n 51 cx 1 dX6_nursery_51 rfl ?_
            refine j_get 52 cx 0 8 (T := TX6) (v := .int (nI (mT (rK (iIt t n r σ).2.1)))) (fun _ h => List.mem_cons_of_mem _ (List.mem_append_right _ (h))) (List.mem_of_getElem? (i := 3) rfl) (ci := 5) rfl (by decide) rfl rfl rfl dX6_nursery_52 ?_
            refine j_bipush 55 cx 22 dX6_nursery_55 (by decide) ?_
            refine j_icmp_eq_F 57 cx 64 dX6_nursery_57 (by decide) (mT_ne (of_decide_eq_false zc3) (by decide) (iIt_v hr (σ := σ)).1.kk) ?_
            refine j_iconst 60 cx 1 dX6_nursery_60 (by decide) ?_
            refine j_goto 61 cx 65 dX6_nursery_61 (by decide) ?_
            refine j_put 65 cx 0 12 (wMO o am ik la (nI n) (nI (mT (rK (iIt t n r σ).2.1))) (nI (rB (iIt t n r σ).2.1)) (nI (rA (iIt t n r σ).2.1)) (nI (rV (iIt t n r σ).2.1)) true ++ ([((am 4), .inl (gI G, 120, .inl t))] ++ ([((am 0), .inl (gI G, 51, .inl (mm (iIt t n r σ).2.2)))] ++ [((am 2), .inl (gI G, 51, .inl (mm σ0)))]))) (T := TX6) (ty0 := tyX6) (fun _ h => List.mem_cons_of_mem _ (List.mem_append_right _ (h))) (List.mem_of_getElem? (i := 2) rfl) (ci := 5) rfl (by decide) rfl tyX6_ok nmX6 rfl rfl rfl rfl (Nat.le_of_ble_eq_true rfl) rfl dX6_nursery_65 ?_
            refine j_aload_n 68 cx 1 dX6_nursery_68 rfl ?_
            refine j_iconst 69 cx 0 dX6_nursery_69 (by decide) ?_
            refine j_put 70 cx 0 7 (wMO o am ik la 0 (nI (mT (rK (iIt t n r σ).2.1))) (nI (rB (iIt t n r σ).2.1)) (nI (rA (iIt t n r σ).2.1)) (nI (rV (iIt t n r σ).2.1)) true ++ ([((am 4), .inl (gI G, 120, .inl t))] ++ ([((am 0), .inl (gI G, 51, .inl (mm (iIt t n r σ).2.2)))] ++ [((am 2), .inl (gI G, 51, .inl (mm σ0)))]))) (T := TX6) (ty0 := tyX6) (fun _ h => List.mem_cons_of_mem _ (List.mem_append_right _ (h))) (List.mem_of_getElem? (i := 4) rfl) (ci := 5) rfl (by decide) rfl tyX6_ok nmX6 rfl rfl rfl rfl (Nat.le_of_ble_eq_true rfl) rfl dX6_nursery_70 ?_
            refine j_aload_n 73 cx 1 dX6_nursery_73 rfl ?_
            refine j_get 74 cx 0 12 (T := TX6) (v := .int (bI (true))) (fun _ h => List.mem_cons_of_mem _ (List.mem_append_right _ (h))) (List.mem_of_getElem? (i := 2) rfl) (ci := 5) rfl (by decide) rfl rfl rfl dX6_nursery_74 ?_
            refine j_if_ne_T 77 cx 82 dX6_nursery_77 (by decide) (by decide) ?_
            refine j_aload_n 82 cx 1 dX6_nursery_82 rfl ?_
            refine j_callV_v 83 cx 0 [0, 2, 3] [] (fun _ => wMO o am ik la 0 (nI (mT (rK (iIt t n r σ).2.1))) (nI (rB (iIt t n r σ).2.1)) (nI (rA (iIt t n r σ).2.1)) (nI (rV (iIt t n r σ).2.1)) true ++ ([((am 4), .inl (gI G, 120, .inl t))] ++ ([((am 0), .inl (gI G, 51, .inl (mm σ0)))] ++ [((am 2), .inl (gI G, 51, .inl (mm σ0)))]))) (c_X6_putsBack (kl K) G o am ik la 0 (nI (mT (rK (iIt t n r σ).2.1))) (nI (rB (iIt t n r σ).2.1)) (nI (rA (iIt t n r σ).2.1)) (nI (rV (iIt t n r σ).2.1)) true (iIt t n r σ).2.2 σ0) gX6_nursery_X6_putsBack rfl rfl rfl ⟨rfl, by decide, by decide, rfl⟩ ⟨Nat.le_of_ble_eq_true rfl, Nat.le_of_ble_eq_true rfl⟩ ⟨Nat.zero_le _, Nat.zero_le _⟩ rfl (by decide) (ci := 5) 0 rfl rfl rfl rfl rfl (Nat.le_of_ble_eq_true rfl) dX6_nursery_83 (fun _ => rfl) (fun zu7 zk7 => ?_)
            refine j_iconst 86 cx (-1) dX6_nursery_86 (by decide) ?_
            refine j_aload_n 87 cx 1 dX6_nursery_87 rfl ?_
            refine j_get 88 cx 0 9 (T := TX6) (v := .int (nI (rB (iIt t n r σ).2.1))) (fun _ h => List.mem_cons_of_mem _ (List.mem_append_right _ (h))) (List.mem_of_getElem? (i := 5) rfl) (ci := 5) rfl (by decide) rfl rfl rfl dX6_nursery_88 ?_
            refine j_isub 91 cx dX6_nursery_91 ?_
            have ze : (tx0 t n σ0) = (-1 - nI (rB (iIt t n r σ).2.1), σ0) := by rw [hT9, txT, if_neg (fun q => of_decide_eq_false zc3 q.2), if_neg (fun q => of_decide_eq_false zc2 q.2)]
            exact fin ((nI (mT (rK (iIt t n r σ).2.1))), (nI (rB (iIt t n r σ).2.1)), (nI (rA (iIt t n r σ).2.1)), (nI (rV (iIt t n r σ).2.1)), true) _ _ _ _ dX6_nursery_92 rfl (by rw [ze] <;> rfl) (by rw [ze] <;> rfl) trivial
      · skip
        refine j_bipush 25 cx 21 dX6_nursery_25 (by decide) ?_
        refine j_ws (wMO o am ik la (nI n) (nI (mT (rK (iIt t n r σ).2.1))) (nI (rB (iIt t n r σ).2.1)) (nI (rA (iIt t n r σ).2.1)) (nI (rV (iIt t n r σ).2.1)) true ++ ([((am 4), .inl (gI G, 120, .inl t))] ++ ([((am 0), .inl (gI G, 51, .inl (mm s)))] ++ [((am 2), .inl (gI G, 51, .inl (mm σ0)))]))) (by rw [zc1] <;> rfl) ?_
        refine j_callV_i 27 cx 1 [0, 1] [.int 21] (fun _ => wMO o am ik la (nI n) (nI (mT (rK (iIt t n r σ).2.1))) (nI (rB (iIt t n r σ).2.1)) (nI (rA (iIt t n r σ).2.1)) (nI (rV (iIt t n r σ).2.1)) true ++ ([((am 4), .inl (gI G, 120, .inl t))] ++ ([((am 0), .inl (gI G, 51, .inl (mm s)))] ++ [((am 2), .inl (gI G, 51, .inl (mm σ0)))]))) (c_X6_passes_b (kl K) G o am ik la t n (iIt t n r σ).2.1 hT hn (iIt_v hr (σ := σ)).1 21 (by decide)) gX6_nursery_X6_passes rfl rfl rfl ⟨rfl, by decide, by decide, rfl⟩ ⟨Nat.le_of_ble_eq_true rfl, Nat.le_of_ble_eq_true rfl⟩ ⟨Nat.zero_le _, Nat.zero_le _⟩ rfl (by decide) (ci := 5) 0 rfl rfl rfl rfl rfl (Nat.le_of_ble_eq_true rfl) dX6_nursery_27 (fun _ => rfl) (fun zu8 zk8 => ?_)
        refine j_top (0) rfl ?_
        refine j_if_eq_T 30 cx 43 dX6_nursery_30 (by decide) (by decide) ?_
        refine j_aload_n 43 cx 1 dX6_nursery_43 rfl ?_
        refine j_aload_n 44 cx 1 dX6_nursery_44 rfl ?_
        refine j_get 45 cx 0 12 (T := TX6) (v := .int (bI (true))) (fun _ h => List.mem_cons_of_mem _ (List.mem_append_right _ (h))) (List.mem_of_getElem? (i := 2) rfl) (ci := 5) rfl (by decide) rfl rfl rfl dX6_nursery_45 ?_
        refine j_if_ne_T 48 cx 60 dX6_nursery_48 (by decide) (by decide) ?_
        refine j_iconst 60 cx 1 dX6_nursery_60 (by decide) ?_
        refine j_goto 61 cx 65 dX6_nursery_61 (by decide) ?_
        refine j_put 65 cx 0 12 (wMO o am ik la (nI n) (nI (mT (rK (iIt t n r σ).2.1))) (nI (rB (iIt t n r σ).2.1)) (nI (rA (iIt t n r σ).2.1)) (nI (rV (iIt t n r σ).2.1)) true ++ ([((am 4), .inl (gI G, 120, .inl t))] ++ ([((am 0), .inl (gI G, 51, .inl (mm s)))] ++ [((am 2), .inl (gI G, 51, .inl (mm σ0)))]))) (T := TX6) (ty0 := tyX6) (fun _ h => List.mem_cons_of_mem _ (List.mem_append_right _ (h))) (List.mem_of_getElem? (i := 2) rfl) (ci := 5) rfl (by decide) rfl tyX6_ok nmX6 rfl rfl rfl rfl (Nat.le_of_ble_eq_true rfl) rfl dX6_nursery_65 ?_
        refine j_aload_n 68 cx 1 dX6_nursery_68 rfl ?_
        refine j_iconst 69 cx 0 dX6_nursery_69 (by decide) ?_
        refine j_put 70 cx 0 7 (wMO o am ik la 0 (nI (mT (rK (iIt t n r σ).2.1))) (nI (rB (iIt t n r σ).2.1)) (nI (rA (iIt t n r σ).2.1)) (nI (rV (iIt t n r σ).2.1)) true ++ ([((am 4), .inl (gI G, 120, .inl t))] ++ ([((am 0), .inl (gI G, 51, .inl (mm s)))] ++ [((am 2), .inl (gI G, 51, .inl (mm σ0)))]))) (T := TX6) (ty0 := tyX6) (fun _ h => List.mem_cons_of_mem _ (List.mem_append_right _ (h))) (List.mem_of_getElem? (i := 4) rfl) (ci := 5) rfl (by decide) rfl tyX6_ok nmX6 rfl rfl rfl rfl (Nat.le_of_ble_eq_true rfl) rfl dX6_nursery_70 ?_
        refine j_aload_n 73 cx 1 dX6_nursery_73 rfl ?_
        refine j_get 74 cx 0 12 (T := TX6) (v := .int (bI (true))) (fun _ h => List.mem_cons_of_mem _ (List.mem_append_right _ (h))) (List.mem_of_getElem? (i := 2) rfl) (ci := 5) rfl (by decide) rfl rfl rfl dX6_nursery_74 ?_
        refine j_if_ne_T 77 cx 82 dX6_nursery_77 (by decide) (by decide) ?_
        refine j_aload_n 82 cx 1 dX6_nursery_82 rfl ?_
        refine j_callV_v 83 cx 0 [0, 2, 3] [] (fun _ => wMO o am ik la 0 (nI (mT (rK (iIt t n r σ).2.1))) (nI (rB (iIt t n r σ).2.1)) (nI (rA (iIt t n r σ).2.1)) (nI (rV (iIt t n r σ).2.1)) true ++ ([((am 4), .inl (gI G, 120, .inl t))] ++ ([((am 0), .inl (gI G, 51, .inl (mm σ0)))] ++ [((am 2), .inl (gI G, 51, .inl (mm σ0)))]))) (c_X6_putsBack (kl K) G o am ik la 0 (nI (mT (rK (iIt t n r σ).2.1))) (nI (rB (iIt t n r σ).2.1)) (nI (rA (iIt t n r σ).2.1)) (nI (rV (iIt t n r σ).2.1)) true s σ0) gX6_nursery_X6_putsBack rfl rfl rfl ⟨rfl, by decide, by decide, rfl⟩ ⟨Nat.le_of_ble_eq_true rfl, Nat.le_of_ble_eq_true rfl⟩ ⟨Nat.zero_le _, Nat.zero_le _⟩ rfl (by decide) (ci := 5) 0 rfl rfl rfl rfl rfl (Nat.le_of_ble_eq_true rfl) dX6_nursery_83 (fun _ => rfl) (fun zu9 zk9 => ?_)
        refine j_iconst 86 cx (-1) dX6_nursery_86 (by decide) ?_
        refine j_aload_n 87 cx 1 dX6_nursery_87 rfl ?_
        refine j_get 88 cx 0 9 (T := TX6) (v := .int (nI (rB (iIt t n r σ).2.1))) (fun _ h => List.mem_cons_of_mem _ (List.mem_append_right _ (h))) (List.mem_of_getElem? (i := 5) rfl) (ci := 5) rfl (by decide) rfl rfl rfl dX6_nursery_88 ?_
        refine j_isub 91 cx dX6_nursery_91 ?_
        have ze : (tx0 t n σ0) = (-1 - nI (rB (iIt t n r σ).2.1), σ0) := by rw [hT9, txT, if_neg (fun q => by rw [zc1] at q; cases q.1), if_neg (fun q => by rw [zc1] at q; cases q.1)]
        exact fin ((nI (mT (rK (iIt t n r σ).2.1))), (nI (rB (iIt t n r σ).2.1)), (nI (rA (iIt t n r σ).2.1)), (nI (rV (iIt t n r σ).2.1)), true) _ _ _ _ dX6_nursery_92 rfl (by rw [ze] <;> rfl) (by rw [ze] <;> rfl) trivial
  exact L24 119 1 (rdT t n 0) σ0 zs1 (by omega) (by omega) ⟨0, Nat.zero_le _, rfl⟩ hI0 hszs1 (by omega) rfl
theorem c_X6_nursery (l : Launch) (G : pG) (o : Nat) (am : Nat → Nat) (S : St) (la tk be an va : Int32) (bd : Bool) (ω : Nu) (hI : Inv (sN S)) (hT : okT (sT S)) (hL : sL S ≤ 120) : KI l G yX6_nursery wsX6_nursery ({ frames := 7, cells := 0, slots := 0, locals := 160 } : Room) [.ref o] (wMO o am (sP S) la (nI (sL S)) tk be an va bd ++ ([((am 4), .inl (gI G, 120, .inl (sT S)))] ++ ([((am 0), .inl (gI G, 51, .inl (mm (sN S))))] ++ [((am 2), .inl (gI G, 51, .inl (mm ω)))]))) (S := Int32 × Int32 × Int32 × Int32 × Bool) (fun _ => True) (fun _ => (sp_nursery S).1) (fun u => wMO o am (sP S) la (nI (sL (sp_nursery S).2)) (u.1) (u.2.1) (u.2.2.1) (u.2.2.2.1) (u.2.2.2.2) ++ ([((am 4), .inl (gI G, 120, .inl (sT (sp_nursery S).2)))] ++ ([((am 0), .inl (gI G, 51, .inl (mm (sN (sp_nursery S).2))))] ++ [((am 2), .inl (gI G, 51, .inl (mm (sN S))))]))) := c_X6_nurseryM l G o am (sP S) la tk be an va bd (sT S) (sL S) hT hL (sN S) ω hI
