set_option maxRecDepth 100000 in
set_option maxHeartbeats 4000000 in
theorem c_X6_days (l : Launch) (G : pG) (o : Nat) (am : Nat → Nat) (S : St) (la tk be an va : Int32) (bd : Bool) (ω : Nu) (hI : Inv (sN S)) (hD : dyN (sN S) ≤ 9999) (n : Int32) : KI l G yX6_days wsX6_days ({ frames := 8, cells := 0, slots := 0, locals := 179 } : Room) [.ref o, .int n] (wMO o am (sP S) la (nI (sL S)) tk be an va bd ++ ([((am 0), .inl (gI G, 51, .inl (mm (sN S))))] ++ [((am 3), .inl (gI G, 7, .inl (sF S)))])) (S := Int32) (fun _ => True) (fun u => (sp_days n S).1) (fun u => wMO o am (sP S) u (nI (sL S)) tk be an va bd ++ ([((am 0), .inl (gI G, 51, .inl (mm (sN (sp_days n S).2))))] ++ [((am 3), .inl (gI G, 7, .inl (sF (sp_days n S).2)))])) := by
  refine ki_of [(0, .ref o), (1, .int n)] (own := RX6) (cc := cX6_days) (nL := 2) (by decide +kernel) rfl rfl (Nat.le_of_ble_eq_true rfl) rfl (fun _ => rfl) (fun K cx fin => ?_)
  refine j_iload_n 0 cx 1 dX6_days_0 rfl ?_
  refine j_i2l 1 cx dX6_days_1 ?_
  refine j_iconst 2 cx 1 dX6_days_2 (by decide) ?_
  refine j_bipush 3 cx 100 dX6_days_3 (by decide) ?_
  refine j_callS_i 5 cx 3 [] [.long (n.toInt64), .int 1, .int 100] (fun _ => wMO o am (sP S) la (nI (sL S)) tk be an va bd ++ ([((am 0), .inl (gI G, 51, .inl (mm (sN S))))] ++ [((am 3), .inl (gI G, 7, .inl (sF S)))])) (c_X6_in (kl K) G (n.toInt64) 1 100) gX6_days_X6_in rfl rfl rfl ⟨by decide, by decide, rfl⟩ ⟨Nat.le_of_ble_eq_true rfl, Nat.le_of_ble_eq_true rfl⟩ ⟨Nat.zero_le _, Nat.zero_le _⟩ rfl (by decide) rfl rfl (Nat.le_of_ble_eq_true rfl) dX6_days_5 (fun _ => rfl) (fun zu1 zk1 => ?_)
  refine j_top (bI (inL (n.toInt64) 1 100)) rfl ?_
  refine j_top (bI (inI n 1 100)) (congrArg bI (inL_i n 1 100)) ?_
  refine j_ifB_ne 8 cx 18 dX6_days_8 (by decide) (fun zc1 => ?_) (fun zc1 => ?_)
  · skip
    obtain ⟨kn, hkn1, hkn2, rfl⟩ := in_c (L := 1) (M := 100) (a := 1) (m := 100) rfl rfl zc1
    have hckn : (nI kn).toNatClampNeg = kn := nI_clamp (by omega)
    refine j_aload_n 18 cx 0 dX6_days_18 rfl ?_
    refine j_get 19 cx 0 0 (T := TX6) (v := .ref ((am 0))) (fun _ h => List.mem_cons_of_mem _ (List.mem_append_right _ (h))) (List.mem_of_getElem? (i := 2) rfl) (ci := 5) rfl (by decide) rfl rfl rfl dX6_days_19 ?_
    refine j_iconst 22 cx 0 dX6_days_22 (by decide) ?_
    refine j_iald 23 cx 1 0 rfl rfl (by omega) (by decide) dX6_days_23 ?_
    refine j_top ((sN S) 0 0) rfl ?_
    refine j_iload_n 24 cx 1 dX6_days_24 rfl ?_
    refine j_iadd 25 cx dX6_days_25 ?_
    refine j_sipush 26 cx 9999 dX6_days_26 (by decide) ?_
    refine j_icmp_le 29 cx 39 dX6_days_29 (by decide) (fun zc2 => ?_) (fun zc2 => ?_)
    · skip
      refine j_aload_n 39 cx 0 dX6_days_39 rfl ?_
      refine j_iload_n 40 cx 1 dX6_days_40 rfl ?_
      refine j_callV_v 41 cx 1 [0, 1] [.int (nI kn)] (fun zl1 => wMO o am (sP S) zl1 (nI (sL S)) tk be an va bd ++ ([((am 0), .inl (gI G, 51, .inl (mm (daysF (sN S) kn))))] ++ [((am 3), .inl (gI G, 7, .inl (sF S)))])) (c_X6_goesFor (kl K) G o am (sP S) la (nI (sL S)) tk be an va bd (sN S) hI kn (by have := hD; omega)) gX6_days_X6_goesFor rfl rfl rfl ⟨rfl, by decide, by decide, rfl⟩ ⟨Nat.le_of_ble_eq_true rfl, Nat.le_of_ble_eq_true rfl⟩ ⟨Nat.zero_le _, Nat.zero_le _⟩ rfl (by decide) (ci := 5) 0 rfl rfl rfl rfl rfl (Nat.le_of_ble_eq_true rfl) dX6_days_41 (fun _ => rfl) (fun zl1 zk2 => ?_)
      refine j_aload_n 44 cx 0 dX6_days_44 rfl ?_
      refine j_callV_i 45 cx 0 [0, 1] [] (fun _ => wMO o am (sP S) zl1 (nI (sL S)) tk be an va bd ++ ([((am 0), .inl (gI G, 51, .inl (mm (daysF (sN S) kn))))] ++ [((am 3), .inl (gI G, 7, .inl (sF S)))])) (c_X6_doneOnes (kl K) G o am (sP S) zl1 (nI (sL S)) tk be an va bd (daysF (sN S) kn)  (inv_daysF hI kn (by have := hD; omega)).1 ) gX6_days_X6_doneOnes rfl rfl rfl ⟨rfl, by decide, by decide, rfl⟩ ⟨Nat.le_of_ble_eq_true rfl, Nat.le_of_ble_eq_true rfl⟩ ⟨Nat.zero_le _, Nat.zero_le _⟩ rfl (by decide) (ci := 5) 0 rfl rfl rfl rfl rfl (Nat.le_of_ble_eq_true rfl) dX6_days_45 (fun _ => rfl) (fun zu3 zk3 => ?_)
      refine j_top (setF (daysF (sN S) kn) (done (daysF (sN S) kn)) (szN (daysF (sN S) kn))) rfl ?_
      have ze : (sp_days (nI kn) S) = (setF (daysF (sN S) kn) (done (daysF (sN S) kn)) (szN (daysF (sN S) kn)), stN S (daysF (sN S) kn)) := by unfold sp_days; simp [daysF_sz, bI_t, bI_f, zc1, hckn, Int32.not_lt.mpr zc2]
      exact fin zl1 _ _ _ _ dX6_days_48 rfl (by rw [ze] <;> rfl) (by rw [ze] <;> rfl) trivial
    · skip
      refine j_aload_n 32 cx 0 dX6_days_32 rfl ?_
      refine j_ldc 33 cx (v := -1000000005) (List.mem_of_getElem? (i := 3) rfl) dX6_days_33 ?_
      refine j_callV_i 35 cx 1 [0, 2] [.int (fcode 4)] (fun _ => wMO o am (sP S) la (nI (sL S)) tk be an va bd ++ ([((am 0), .inl (gI G, 51, .inl (mm (sN S))))] ++ [((am 3), .inl (gI G, 7, .inl (upd (sF S) 4 ((sF S) 4 + 1))))])) (c_X6_finds (kl K) G o am (sP S) la (nI (sL S)) tk be an va bd (sF S) 4 (by decide)) gX6_days_X6_finds rfl rfl rfl ⟨rfl, by decide, by decide, rfl⟩ ⟨Nat.le_of_ble_eq_true rfl, Nat.le_of_ble_eq_true rfl⟩ ⟨Nat.zero_le _, Nat.zero_le _⟩ rfl (by decide) (ci := 5) 0 rfl rfl rfl rfl rfl (Nat.le_of_ble_eq_true rfl) dX6_days_35 (fun _ => rfl) (fun zu4 zk4 => ?_)
      refine j_top (fcode 4) rfl ?_
      have ze : (sp_days (nI kn) S) = bad S 4 := by unfold sp_days; simp [daysF_sz, bI_t, bI_f, zc1, hckn, Int32.not_le.mp zc2]
      exact fin la _ _ _ _ dX6_days_38 rfl (by rw [ze] <;> rfl) (by rw [ze] <;> rfl) trivial
  · skip
    refine j_aload_n 11 cx 0 dX6_days_11 rfl ?_
    refine j_ldc 12 cx (v := -1000000001) (List.mem_of_getElem? (i := 1) rfl) dX6_days_12 ?_
    refine j_callV_i 14 cx 1 [0, 2] [.int (fcode 0)] (fun _ => wMO o am (sP S) la (nI (sL S)) tk be an va bd ++ ([((am 0), .inl (gI G, 51, .inl (mm (sN S))))] ++ [((am 3), .inl (gI G, 7, .inl (upd (sF S) 0 ((sF S) 0 + 1))))])) (c_X6_finds (kl K) G o am (sP S) la (nI (sL S)) tk be an va bd (sF S) 0 (by decide)) gX6_days_X6_finds rfl rfl rfl ⟨rfl, by decide, by decide, rfl⟩ ⟨Nat.le_of_ble_eq_true rfl, Nat.le_of_ble_eq_true rfl⟩ ⟨Nat.zero_le _, Nat.zero_le _⟩ rfl (by decide) (ci := 5) 0 rfl rfl rfl rfl rfl (Nat.le_of_ble_eq_true rfl) dX6_days_14 (fun _ => rfl) (fun zu5 zk5 => ?_)
    refine j_top (fcode 0) rfl ?_
    have ze : (sp_days n S) = bad S 0 := by unfold sp_days; simp [daysF_sz, bI_t, bI_f, zc1]
    exact fin la _ _ _ _ dX6_days_17 rfl (by rw [ze] <;> rfl) (by rw [ze] <;> rfl) trivial
set_option maxRecDepth 100000 in
set_option maxHeartbeats 4000000 in
theorem c_X6_on (l : Launch) (G : pG) (o : Nat) (am : Nat → Nat) (S : St) (la tk be an va : Int32) (bd : Bool) (ω : Nu) (hI : Inv (sN S)) (hD : dyN (sN S) ≤ 9999) (p n w : Int32) : KI l G yX6_on wsX6_on ({ frames := 8, cells := 0, slots := 0, locals := 179 } : Room) [.ref o, .int p, .int n, .int w] (wMO o am (sP S) la (nI (sL S)) tk be an va bd ++ ([((am 0), .inl (gI G, 51, .inl (mm (sN S))))] ++ ([((am 3), .inl (gI G, 7, .inl (sF S)))] ++ [((am 2), .inl (gI G, 51, .inl (mm ω)))]))) (S := (Int32 × Nu)) (fun _ => True) (fun u => (sp_on p n w S).1) (fun u => wMO o am (sP S) (u.1) (nI (sL S)) tk be an va bd ++ ([((am 0), .inl (gI G, 51, .inl (mm (sN (sp_on p n w S).2))))] ++ ([((am 3), .inl (gI G, 7, .inl (sF (sp_on p n w S).2)))] ++ [((am 2), .inl (gI G, 51, .inl (mm u.2)))]))) := by
  refine ki_of [(0, .ref o), (1, .int p), (2, .int n), (3, .int w)] (own := RX6) (cc := cX6_on) (nL := 5) (by decide +kernel) rfl rfl (Nat.le_of_ble_eq_true rfl) rfl (fun _ => rfl) (fun K cx fin => ?_)
  refine j_aload_n 0 cx 0 dX6_on_0 rfl ?_
  refine j_iload_n 1 cx 1 dX6_on_1 rfl ?_
  refine j_callV_i 2 cx 1 [0, 1] [.int p] (fun _ => wMO o am (sP S) la (nI (sL S)) tk be an va bd ++ ([((am 0), .inl (gI G, 51, .inl (mm (sN S))))] ++ ([((am 3), .inl (gI G, 7, .inl (sF S)))] ++ [((am 2), .inl (gI G, 51, .inl (mm ω)))]))) (c_X6_isPart (kl K) G o am (sP S) la (nI (sL S)) tk be an va bd (sN S) p hI ) gX6_on_X6_isPart rfl rfl rfl ⟨rfl, by decide, by decide, rfl⟩ ⟨Nat.le_of_ble_eq_true rfl, Nat.le_of_ble_eq_true rfl⟩ ⟨Nat.zero_le _, Nat.zero_le _⟩ rfl (by decide) (ci := 5) 0 rfl rfl rfl rfl rfl (Nat.le_of_ble_eq_true rfl) dX6_on_2 (fun _ => rfl) (fun zu1 zk1 => ?_)
  refine j_top (bI (inI p 0 (nI (szN (sN S)) - 1))) rfl ?_
  refine j_ifB_eq 5 cx 30 dX6_on_5 (by decide) (fun zc1 => ?_) (fun zc1 => ?_)
  · skip
    refine j_aload_n 30 cx 0 dX6_on_30 rfl ?_
    refine j_ldc 31 cx (v := -1000000001) (List.mem_of_getElem? (i := 1) rfl) dX6_on_31 ?_
    refine j_callV_i 33 cx 1 [0, 2] [.int (fcode 0)] (fun _ => wMO o am (sP S) la (nI (sL S)) tk be an va bd ++ ([((am 0), .inl (gI G, 51, .inl (mm (sN S))))] ++ ([((am 3), .inl (gI G, 7, .inl (upd (sF S) 0 ((sF S) 0 + 1))))] ++ [((am 2), .inl (gI G, 51, .inl (mm ω)))]))) (c_X6_finds (kl K) G o am (sP S) la (nI (sL S)) tk be an va bd (sF S) 0 (by decide)) gX6_on_X6_finds rfl rfl rfl ⟨rfl, by decide, by decide, rfl⟩ ⟨Nat.le_of_ble_eq_true rfl, Nat.le_of_ble_eq_true rfl⟩ ⟨Nat.zero_le _, Nat.zero_le _⟩ rfl (by decide) (ci := 5) 0 rfl rfl rfl rfl rfl (Nat.le_of_ble_eq_true rfl) dX6_on_33 (fun _ => rfl) (fun zu2 zk2 => ?_)
    refine j_top (fcode 0) rfl ?_
    have ze : (sp_on p n w S) = bad S 0 := by unfold sp_on; simp [isP_eq hI, bI_t, bI_f, zc1]
    exact fin (la, ω) _ _ _ _ dX6_on_36 rfl (by rw [ze] <;> rfl) (by rw [ze] <;> rfl) trivial
  · skip
    obtain ⟨k, hk, rfl⟩ := in_n (by have := hI.sz8; omega) zc1
    have h8 := hI.sz8
    have hkc : (nI k).toNatClampNeg = k := nI_clamp (by omega)
    refine j_iload_n 8 cx 2 dX6_on_8 rfl ?_
    refine j_i2l 9 cx dX6_on_9 ?_
    refine j_iconst 10 cx 0 dX6_on_10 (by decide) ?_
    refine j_sipush 11 cx 400 dX6_on_11 (by decide) ?_
    refine j_callS_i 14 cx 3 [] [.long (n.toInt64), .int 0, .int 400] (fun _ => wMO o am (sP S) la (nI (sL S)) tk be an va bd ++ ([((am 0), .inl (gI G, 51, .inl (mm (sN S))))] ++ ([((am 3), .inl (gI G, 7, .inl (sF S)))] ++ [((am 2), .inl (gI G, 51, .inl (mm ω)))]))) (c_X6_in (kl K) G (n.toInt64) 0 400) gX6_on_X6_in rfl rfl rfl ⟨by decide, by decide, rfl⟩ ⟨Nat.le_of_ble_eq_true rfl, Nat.le_of_ble_eq_true rfl⟩ ⟨Nat.zero_le _, Nat.zero_le _⟩ rfl (by decide) rfl rfl (Nat.le_of_ble_eq_true rfl) dX6_on_14 (fun _ => rfl) (fun zu3 zk3 => ?_)
    refine j_top (bI (inL (n.toInt64) 0 400)) rfl ?_
    refine j_top (bI (inI n 0 400)) (congrArg bI (inL_i n 0 400)) ?_
    refine j_ifB_eq 17 cx 30 dX6_on_17 (by decide) (fun zc2 => ?_) (fun zc2 => ?_)
    · skip
      refine j_aload_n 30 cx 0 dX6_on_30 rfl ?_
      refine j_ldc 31 cx (v := -1000000001) (List.mem_of_getElem? (i := 1) rfl) dX6_on_31 ?_
      refine j_callV_i 33 cx 1 [0, 2] [.int (fcode 0)] (fun _ => wMO o am (sP S) la (nI (sL S)) tk be an va bd ++ ([((am 0), .inl (gI G, 51, .inl (mm (sN S))))] ++ ([((am 3), .inl (gI G, 7, .inl (upd (sF S) 0 ((sF S) 0 + 1))))] ++ [((am 2), .inl (gI G, 51, .inl (mm ω)))]))) (c_X6_finds (kl K) G o am (sP S) la (nI (sL S)) tk be an va bd (sF S) 0 (by decide)) gX6_on_X6_finds rfl rfl rfl ⟨rfl, by decide, by decide, rfl⟩ ⟨Nat.le_of_ble_eq_true rfl, Nat.le_of_ble_eq_true rfl⟩ ⟨Nat.zero_le _, Nat.zero_le _⟩ rfl (by decide) (ci := 5) 0 rfl rfl rfl rfl rfl (Nat.le_of_ble_eq_true rfl) dX6_on_33 (fun _ => rfl) (fun zu4 zk4 => ?_)
      refine j_top (fcode 0) rfl ?_
      have ze : (sp_on (nI k) n w S) = bad S 0 := by unfold sp_on; simp [isP_eq hI, bI_t, bI_f, zc1, hkc, zc2]
      exact fin (la, ω) _ _ _ _ dX6_on_36 rfl (by rw [ze] <;> rfl) (by rw [ze] <;> rfl) trivial
    · skip
      obtain ⟨kn, hkn1, hkn2, rfl⟩ := in_c (L := 0) (M := 400) (a := 0) (m := 400) rfl rfl zc2
      have hckn : (nI kn).toNatClampNeg = kn := nI_clamp (by omega)
      refine j_iload_n 20 cx 3 dX6_on_20 rfl ?_
      refine j_i2l 21 cx dX6_on_21 ?_
      refine j_iconst 22 cx 0 dX6_on_22 (by decide) ?_
      refine j_iconst 23 cx 1 dX6_on_23 (by decide) ?_
      refine j_callS_i 24 cx 3 [] [.long (w.toInt64), .int 0, .int 1] (fun _ => wMO o am (sP S) la (nI (sL S)) tk be an va bd ++ ([((am 0), .inl (gI G, 51, .inl (mm (sN S))))] ++ ([((am 3), .inl (gI G, 7, .inl (sF S)))] ++ [((am 2), .inl (gI G, 51, .inl (mm ω)))]))) (c_X6_in (kl K) G (w.toInt64) 0 1) gX6_on_X6_in rfl rfl rfl ⟨by decide, by decide, rfl⟩ ⟨Nat.le_of_ble_eq_true rfl, Nat.le_of_ble_eq_true rfl⟩ ⟨Nat.zero_le _, Nat.zero_le _⟩ rfl (by decide) rfl rfl (Nat.le_of_ble_eq_true rfl) dX6_on_24 (fun _ => rfl) (fun zu5 zk5 => ?_)
      refine j_top (bI (inL (w.toInt64) 0 1)) rfl ?_
      refine j_top (bI (inI w 0 1)) (congrArg bI (inL_i w 0 1)) ?_
      refine j_ifB_ne 27 cx 37 dX6_on_27 (by decide) (fun zc3 => ?_) (fun zc3 => ?_)
      · skip
        rcases in_01 zc3 with rfl | rfl
        · skip
          refine j_aload_n 37 cx 0 dX6_on_37 rfl ?_
          refine j_callV_v 38 cx 0 [0, 1, 3] [] (fun _ => wMO o am (sP S) la (nI (sL S)) tk be an va bd ++ ([((am 0), .inl (gI G, 51, .inl (mm (sN S))))] ++ ([((am 3), .inl (gI G, 7, .inl (sF S)))] ++ [((am 2), .inl (gI G, 51, .inl (mm (sN S))))]))) (c_X6_thinks (kl K) G o am (sP S) la (nI (sL S)) tk be an va bd (sN S) ω) gX6_on_X6_thinks rfl rfl rfl ⟨rfl, by decide, by decide, rfl⟩ ⟨Nat.le_of_ble_eq_true rfl, Nat.le_of_ble_eq_true rfl⟩ ⟨Nat.zero_le _, Nat.zero_le _⟩ rfl (by decide) (ci := 5) 0 rfl rfl rfl rfl rfl (Nat.le_of_ble_eq_true rfl) dX6_on_38 (fun _ => rfl) (fun zu6 zk6 => ?_)
          refine j_aload_n 41 cx 0 dX6_on_41 rfl ?_
          refine j_iload_n 42 cx 2 dX6_on_42 rfl ?_
          refine j_callV_v 43 cx 1 [0, 1] [.int (nI kn)] (fun zl1 => wMO o am (sP S) zl1 (nI (sL S)) tk be an va bd ++ ([((am 0), .inl (gI G, 51, .inl (mm (daysF (sN S) kn))))] ++ ([((am 3), .inl (gI G, 7, .inl (sF S)))] ++ [((am 2), .inl (gI G, 51, .inl (mm (sN S))))]))) (c_X6_goesFor (kl K) G o am (sP S) la (nI (sL S)) tk be an va bd (sN S) hI kn (by have := hD; omega)) gX6_on_X6_goesFor rfl rfl rfl ⟨rfl, by decide, by decide, rfl⟩ ⟨Nat.le_of_ble_eq_true rfl, Nat.le_of_ble_eq_true rfl⟩ ⟨Nat.zero_le _, Nat.zero_le _⟩ rfl (by decide) (ci := 5) 0 rfl rfl rfl rfl rfl (Nat.le_of_ble_eq_true rfl) dX6_on_43 (fun _ => rfl) (fun zl1 zk7 => ?_)
          refine j_iload_n 46 cx 3 dX6_on_46 rfl ?_
          refine j_if_ne_F 47 cx 59 dX6_on_47 (by decide) (by decide) ?_
          refine j_aload_n 50 cx 0 dX6_on_50 rfl ?_
          refine j_iload_n 51 cx 1 dX6_on_51 rfl ?_
          refine j_iconst 52 cx 2 dX6_on_52 (by decide) ?_
          refine j_callV_i 53 cx 2 [0, 1] [.int (nI k), .int 2] (fun _ => wMO o am (sP S) zl1 (nI (sL S)) tk be an va bd ++ ([((am 0), .inl (gI G, 51, .inl (mm (daysF (sN S) kn))))] ++ ([((am 3), .inl (gI G, 7, .inl (sF S)))] ++ [((am 2), .inl (gI G, 51, .inl (mm (sN S))))]))) (c_X6_it (kl K) G o am (sP S) zl1 (nI (sL S)) tk be an va bd (daysF (sN S) kn) k 2 (by omega) (by omega) ) gX6_on_X6_it rfl rfl rfl ⟨rfl, by decide, by decide, rfl⟩ ⟨Nat.le_of_ble_eq_true rfl, Nat.le_of_ble_eq_true rfl⟩ ⟨Nat.zero_le _, Nat.zero_le _⟩ rfl (by decide) (ci := 5) 0 rfl rfl rfl rfl rfl (Nat.le_of_ble_eq_true rfl) dX6_on_53 (fun _ => rfl) (fun zu8 zk8 => ?_)
          refine j_top ((daysF (sN S) kn) 4 k) rfl ?_
          refine j_goto 56 cx 72 dX6_on_56 (by decide) ?_
          refine j_istore 72 cx [(4, .int ((daysF (sN S) kn) 4 k)), (0, .ref o), (1, .int (nI k)), (2, .int (nI kn)), (3, .int 0)] dX6_on_72 (by decide) rfl ?_
          refine j_aload_n 74 cx 1 dX6_on_74 rfl ?_
          refine j_callV_v 75 cx 0 [0, 1, 3] [] (fun _ => wMO o am (sP S) zl1 (nI (sL S)) tk be an va bd ++ ([((am 0), .inl (gI G, 51, .inl (mm (sN S))))] ++ ([((am 3), .inl (gI G, 7, .inl (sF S)))] ++ [((am 2), .inl (gI G, 51, .inl (mm (sN S))))]))) (c_X6_putsBack (kl K) G o am (sP S) zl1 (nI (sL S)) tk be an va bd (daysF (sN S) kn) (sN S)) gX6_on_X6_putsBack rfl rfl rfl ⟨rfl, by decide, by decide, rfl⟩ ⟨Nat.le_of_ble_eq_true rfl, Nat.le_of_ble_eq_true rfl⟩ ⟨Nat.zero_le _, Nat.zero_le _⟩ rfl (by decide) (ci := 5) 0 rfl rfl rfl rfl rfl (Nat.le_of_ble_eq_true rfl) dX6_on_75 (fun _ => rfl) (fun zu9 zk9 => ?_)
          refine j_iload 78 cx 0 dX6_on_78 rfl ?_
          have ze : (sp_on (nI k) (nI kn) 0 S) = ((daysF (sN S) kn) 4 k, S) := by unfold sp_on; simp [isP_eq hI, bI_t, bI_f, zc1, hkc, zc2, hckn, zc3]
          exact fin (zl1, (sN S)) _ _ _ _ dX6_on_80 rfl (by rw [ze] <;> rfl) (by rw [ze] <;> rfl) trivial
        · skip
          refine j_aload_n 37 cx 0 dX6_on_37 rfl ?_
          refine j_callV_v 38 cx 0 [0, 1, 3] [] (fun _ => wMO o am (sP S) la (nI (sL S)) tk be an va bd ++ ([((am 0), .inl (gI G, 51, .inl (mm (sN S))))] ++ ([((am 3), .inl (gI G, 7, .inl (sF S)))] ++ [((am 2), .inl (gI G, 51, .inl (mm (sN S))))]))) (c_X6_thinks (kl K) G o am (sP S) la (nI (sL S)) tk be an va bd (sN S) ω) gX6_on_X6_thinks rfl rfl rfl ⟨rfl, by decide, by decide, rfl⟩ ⟨Nat.le_of_ble_eq_true rfl, Nat.le_of_ble_eq_true rfl⟩ ⟨Nat.zero_le _, Nat.zero_le _⟩ rfl (by decide) (ci := 5) 0 rfl rfl rfl rfl rfl (Nat.le_of_ble_eq_true rfl) dX6_on_38 (fun _ => rfl) (fun zu10 zk10 => ?_)
          refine j_aload_n 41 cx 0 dX6_on_41 rfl ?_
          refine j_iload_n 42 cx 2 dX6_on_42 rfl ?_
          refine j_callV_v 43 cx 1 [0, 1] [.int (nI kn)] (fun zl2 => wMO o am (sP S) zl2 (nI (sL S)) tk be an va bd ++ ([((am 0), .inl (gI G, 51, .inl (mm (daysF (sN S) kn))))] ++ ([((am 3), .inl (gI G, 7, .inl (sF S)))] ++ [((am 2), .inl (gI G, 51, .inl (mm (sN S))))]))) (c_X6_goesFor (kl K) G o am (sP S) la (nI (sL S)) tk be an va bd (sN S) hI kn (by have := hD; omega)) gX6_on_X6_goesFor rfl rfl rfl ⟨rfl, by decide, by decide, rfl⟩ ⟨Nat.le_of_ble_eq_true rfl, Nat.le_of_ble_eq_true rfl⟩ ⟨Nat.zero_le _, Nat.zero_le _⟩ rfl (by decide) (ci := 5) 0 rfl rfl rfl rfl rfl (Nat.le_of_ble_eq_true rfl) dX6_on_43 (fun _ => rfl) (fun zl2 zk11 => ?_)
          refine j_iload_n 46 cx 3 dX6_on_46 rfl ?_
          refine j_if_ne_T 47 cx 59 dX6_on_47 (by decide) (by decide) ?_
          refine j_aload_n 59 cx 0 dX6_on_59 rfl ?_
          refine j_iload_n 60 cx 1 dX6_on_60 rfl ?_
          refine j_callV_i 61 cx 1 [0, 1] [.int (nI k)] (fun _ => wMO o am (sP S) zl2 (nI (sL S)) tk be an va bd ++ ([((am 0), .inl (gI G, 51, .inl (mm (daysF (sN S) kn))))] ++ ([((am 3), .inl (gI G, 7, .inl (sF S)))] ++ [((am 2), .inl (gI G, 51, .inl (mm (sN S))))]))) (c_X6_isDone (kl K) G o am (sP S) zl2 (nI (sL S)) tk be an va bd (daysF (sN S) kn) k (by omega) ) gX6_on_X6_isDone rfl rfl rfl ⟨rfl, by decide, by decide, rfl⟩ ⟨Nat.le_of_ble_eq_true rfl, Nat.le_of_ble_eq_true rfl⟩ ⟨Nat.zero_le _, Nat.zero_le _⟩ rfl (by decide) (ci := 5) 0 rfl rfl rfl rfl rfl (Nat.le_of_ble_eq_true rfl) dX6_on_61 (fun _ => rfl) (fun zu12 zk12 => ?_)
          refine j_top (bI (done (daysF (sN S) kn) k)) rfl ?_
          refine j_ifB_eq 64 cx 71 dX6_on_64 (by decide) (fun zc4 => ?_) (fun zc4 => ?_)
          · skip
            refine j_iconst 71 cx 0 dX6_on_71 (by decide) ?_
            refine j_istore 72 cx [(4, .int 0), (0, .ref o), (1, .int (nI k)), (2, .int (nI kn)), (3, .int 1)] dX6_on_72 (by decide) rfl ?_
            refine j_aload_n 74 cx 1 dX6_on_74 rfl ?_
            refine j_callV_v 75 cx 0 [0, 1, 3] [] (fun _ => wMO o am (sP S) zl2 (nI (sL S)) tk be an va bd ++ ([((am 0), .inl (gI G, 51, .inl (mm (sN S))))] ++ ([((am 3), .inl (gI G, 7, .inl (sF S)))] ++ [((am 2), .inl (gI G, 51, .inl (mm (sN S))))]))) (c_X6_putsBack (kl K) G o am (sP S) zl2 (nI (sL S)) tk be an va bd (daysF (sN S) kn) (sN S)) gX6_on_X6_putsBack rfl rfl rfl ⟨rfl, by decide, by decide, rfl⟩ ⟨Nat.le_of_ble_eq_true rfl, Nat.le_of_ble_eq_true rfl⟩ ⟨Nat.zero_le _, Nat.zero_le _⟩ rfl (by decide) (ci := 5) 0 rfl rfl rfl rfl rfl (Nat.le_of_ble_eq_true rfl) dX6_on_75 (fun _ => rfl) (fun zu13 zk13 => ?_)
            refine j_iload 78 cx 0 dX6_on_78 rfl ?_
            have ze : (sp_on (nI k) (nI kn) 1 S) = (0, S) := by unfold sp_on; simp [isP_eq hI, bI_t, bI_f, zc1, hkc, zc2, hckn, zc3, zc4]
            exact fin (zl2, (sN S)) _ _ _ _ dX6_on_80 rfl (by rw [ze] <;> rfl) (by rw [ze] <;> rfl) trivial
          · skip
            refine j_iconst 67 cx 1 dX6_on_67 (by decide) ?_
            refine j_goto 68 cx 72 dX6_on_68 (by decide) ?_
            refine j_istore 72 cx [(4, .int 1), (0, .ref o), (1, .int (nI k)), (2, .int (nI kn)), (3, .int 1)] dX6_on_72 (by decide) rfl ?_
            refine j_aload_n 74 cx 1 dX6_on_74 rfl ?_
            refine j_callV_v 75 cx 0 [0, 1, 3] [] (fun _ => wMO o am (sP S) zl2 (nI (sL S)) tk be an va bd ++ ([((am 0), .inl (gI G, 51, .inl (mm (sN S))))] ++ ([((am 3), .inl (gI G, 7, .inl (sF S)))] ++ [((am 2), .inl (gI G, 51, .inl (mm (sN S))))]))) (c_X6_putsBack (kl K) G o am (sP S) zl2 (nI (sL S)) tk be an va bd (daysF (sN S) kn) (sN S)) gX6_on_X6_putsBack rfl rfl rfl ⟨rfl, by decide, by decide, rfl⟩ ⟨Nat.le_of_ble_eq_true rfl, Nat.le_of_ble_eq_true rfl⟩ ⟨Nat.zero_le _, Nat.zero_le _⟩ rfl (by decide) (ci := 5) 0 rfl rfl rfl rfl rfl (Nat.le_of_ble_eq_true rfl) dX6_on_75 (fun _ => rfl) (fun zu14 zk14 => ?_)
            refine j_iload 78 cx 0 dX6_on_78 rfl ?_
            have ze : (sp_on (nI k) (nI kn) 1 S) = (1, S) := by unfold sp_on; simp [isP_eq hI, bI_t, bI_f, zc1, hkc, zc2, hckn, zc3, zc4]
            exact fin (zl2, (sN S)) _ _ _ _ dX6_on_80 rfl (by rw [ze] <;> rfl) (by rw [ze] <;> rfl) trivial
      · skip
        refine j_aload_n 30 cx 0 dX6_on_30 rfl ?_
        refine j_ldc 31 cx (v := -1000000001) (List.mem_of_getElem? (i := 1) rfl) dX6_on_31 ?_
        refine j_callV_i 33 cx 1 [0, 2] [.int (fcode 0)] (fun _ => wMO o am (sP S) la (nI (sL S)) tk be an va bd ++ ([((am 0), .inl (gI G, 51, .inl (mm (sN S))))] ++ ([((am 3), .inl (gI G, 7, .inl (upd (sF S) 0 ((sF S) 0 + 1))))] ++ [((am 2), .inl (gI G, 51, .inl (mm ω)))]))) (c_X6_finds (kl K) G o am (sP S) la (nI (sL S)) tk be an va bd (sF S) 0 (by decide)) gX6_on_X6_finds rfl rfl rfl ⟨rfl, by decide, by decide, rfl⟩ ⟨Nat.le_of_ble_eq_true rfl, Nat.le_of_ble_eq_true rfl⟩ ⟨Nat.zero_le _, Nat.zero_le _⟩ rfl (by decide) (ci := 5) 0 rfl rfl rfl rfl rfl (Nat.le_of_ble_eq_true rfl) dX6_on_33 (fun _ => rfl) (fun zu15 zk15 => ?_)
        refine j_top (fcode 0) rfl ?_
        have ze : (sp_on (nI k) (nI kn) w S) = bad S 0 := by unfold sp_on; simp [isP_eq hI, bI_t, bI_f, zc1, hkc, zc2, hckn, zc3]
        exact fin (la, ω) _ _ _ _ dX6_on_36 rfl (by rw [ze] <;> rfl) (by rw [ze] <;> rfl) trivial
set_option maxRecDepth 100000 in
set_option maxHeartbeats 4000000 in
theorem c_X6_bits (l : Launch) (G : pG) (s : Nat) (hs : s < 256) : KI l G yX6_bits wsX6_bits ({ frames := 0, cells := 0, slots := 0, locals := 0 } : Room) [.int (nI s)] (([] : va_W)) (S := Unit) (fun _ => True) (fun u => nI (pcF 9 s)) (fun u => ([] : va_W)) := by
  refine ki_of [(0, .int (nI s))] (own := RX6) (cc := cX6_bits) (nL := 3) (by decide +kernel) rfl rfl (Nat.le_of_ble_eq_true rfl) rfl (fun _ => rfl) (fun K cx fin => ?_)
  refine j_iconst 0 cx 0 dX6_bits_0 (by decide) ?_
  refine j_istore_n 1 cx [(1, .int 0), (0, .int (nI s))] dX6_bits_1 (by decide) rfl ?_
  refine j_iload_n 2 cx 1 dX6_bits_2 rfl ?_
  refine j_istore_n 3 cx [(2, .int (nI s)), (1, .int 0), (0, .int (nI s))] dX6_bits_3 (by decide) rfl ?_
  have L4 : ∀ d : Nat, ∀ (c r : Nat), (r < 256) → (pcF 9 r = d) → (c + d = pcF 9 s) → JJ G K 0 0 (([] : va_W)) [(2, .int (nI r)), (1, .int (nI c)), (0, .int (nI s))] 4 [] := by
    intro d
    induction d with
    | zero =>
      intro c r hr hd hc
      refine j_iload_n 4 cx 0 dX6_bits_4 rfl ?_
      refine j_if_eq_T 5 cx 20 dX6_bits_5 (by decide) (by rw [pc_z r hr hd]; rfl) ?_
      refine j_iload_n 20 cx 1 dX6_bits_20 rfl ?_
      exact fin () _ _ _ _ dX6_bits_21 rfl (by rw [show c = pcF 9 s from by omega]) rfl trivial
    | succ d ih4 =>
      intro c r hr hd hc
      refine j_iload_n 4 cx 0 dX6_bits_4 rfl ?_
      refine j_if_eq_F 5 cx 20 dX6_bits_5 (by decide) (fun h => pc_nz hd ((nI_eq (by omega) (by decide)).mp h)) ?_
      refine j_iinc 8 cx [(1, .int (nI (c + 1))), (2, .int (nI r)), (0, .int (nI s))] 1 (nI (c + 1)) dX6_bits_8 rfl (iinc1 c) (by decide) rfl ?_
      refine j_iload_n 11 cx 1 dX6_bits_11 rfl ?_
      refine j_iload_n 12 cx 1 dX6_bits_12 rfl ?_
      refine j_iconst 13 cx 1 dX6_bits_13 (by decide) ?_
      refine j_isub 14 cx dX6_bits_14 ?_
      refine j_iand 15 cx dX6_bits_15 ?_
      refine j_top (nI (r &&& (r - 1))) (bit_e hr (pc_nz hd)) ?_
      refine j_istore_n 16 cx [(2, .int (nI (r &&& (r - 1)))), (1, .int (nI (c + 1))), (0, .int (nI s))] dX6_bits_16 (by decide) rfl ?_
      refine j_goto 17 cx 4 dX6_bits_17 (by decide) ?_
      exact ih4 (c + 1) (r &&& (r - 1)) (by have := bit_lt r hr (pc_nz hd); omega) (by have := pc_dn r hr (pc_nz hd); omega) (by omega)
  exact L4 (pcF 9 s) 0 s hs rfl (by omega)
set_option maxRecDepth 100000 in
set_option maxHeartbeats 4000000 in
theorem c_X6_then (l : Launch) (G : pG) (o : Nat) (am : Nat → Nat) (S : St) (la tk be an va : Int32) (bd : Bool) (ω : Nu) (hI : Inv (sN S)) (hD : dyN (sN S) ≤ 9999) (n w : Int32) : KI l G yX6_then wsX6_then ({ frames := 8, cells := 0, slots := 0, locals := 179 } : Room) [.ref o, .int n, .int w] (wMO o am (sP S) la (nI (sL S)) tk be an va bd ++ ([((am 0), .inl (gI G, 51, .inl (mm (sN S))))] ++ ([((am 3), .inl (gI G, 7, .inl (sF S)))] ++ [((am 2), .inl (gI G, 51, .inl (mm ω)))]))) (S := (Int32 × Nu)) (fun _ => True) (fun u => (sp_then n w S).1) (fun u => wMO o am (sP S) (u.1) (nI (sL S)) tk be an va bd ++ ([((am 0), .inl (gI G, 51, .inl (mm (sN (sp_then n w S).2))))] ++ ([((am 3), .inl (gI G, 7, .inl (sF (sp_then n w S).2)))] ++ [((am 2), .inl (gI G, 51, .inl (mm u.2)))]))) := by
  refine ki_of [(0, .ref o), (1, .int n), (2, .int w)] (own := RX6) (cc := cX6_then) (nL := 4) (by decide +kernel) rfl rfl (Nat.le_of_ble_eq_true rfl) rfl (fun _ => rfl) (fun K cx fin => ?_)
  refine j_iload_n 0 cx 1 dX6_then_0 rfl ?_
  refine j_i2l 1 cx dX6_then_1 ?_
  refine j_iconst 2 cx 0 dX6_then_2 (by decide) ?_
  refine j_sipush 3 cx 400 dX6_then_3 (by decide) ?_
  refine j_callS_i 6 cx 3 [] [.long (n.toInt64), .int 0, .int 400] (fun _ => wMO o am (sP S) la (nI (sL S)) tk be an va bd ++ ([((am 0), .inl (gI G, 51, .inl (mm (sN S))))] ++ ([((am 3), .inl (gI G, 7, .inl (sF S)))] ++ [((am 2), .inl (gI G, 51, .inl (mm ω)))]))) (c_X6_in (kl K) G (n.toInt64) 0 400) gX6_then_X6_in rfl rfl rfl ⟨by decide, by decide, rfl⟩ ⟨Nat.le_of_ble_eq_true rfl, Nat.le_of_ble_eq_true rfl⟩ ⟨Nat.zero_le _, Nat.zero_le _⟩ rfl (by decide) rfl rfl (Nat.le_of_ble_eq_true rfl) dX6_then_6 (fun _ => rfl) (fun zu1 zk1 => ?_)
  refine j_top (bI (inL (n.toInt64) 0 400)) rfl ?_
  refine j_top (bI (inI n 0 400)) (congrArg bI (inL_i n 0 400)) ?_
  refine j_ifB_eq 9 cx 22 dX6_then_9 (by decide) (fun zc1 => ?_) (fun zc1 => ?_)
  · skip
    refine j_aload_n 22 cx 0 dX6_then_22 rfl ?_
    refine j_ldc 23 cx (v := -1000000001) (List.mem_of_getElem? (i := 1) rfl) dX6_then_23 ?_
    refine j_callV_i 25 cx 1 [0, 2] [.int (fcode 0)] (fun _ => wMO o am (sP S) la (nI (sL S)) tk be an va bd ++ ([((am 0), .inl (gI G, 51, .inl (mm (sN S))))] ++ ([((am 3), .inl (gI G, 7, .inl (upd (sF S) 0 ((sF S) 0 + 1))))] ++ [((am 2), .inl (gI G, 51, .inl (mm ω)))]))) (c_X6_finds (kl K) G o am (sP S) la (nI (sL S)) tk be an va bd (sF S) 0 (by decide)) gX6_then_X6_finds rfl rfl rfl ⟨rfl, by decide, by decide, rfl⟩ ⟨Nat.le_of_ble_eq_true rfl, Nat.le_of_ble_eq_true rfl⟩ ⟨Nat.zero_le _, Nat.zero_le _⟩ rfl (by decide) (ci := 5) 0 rfl rfl rfl rfl rfl (Nat.le_of_ble_eq_true rfl) dX6_then_25 (fun _ => rfl) (fun zu2 zk2 => ?_)
    refine j_top (fcode 0) rfl ?_
    have ze : (sp_then n w S) = bad S 0 := by unfold sp_then; simp [daysF_sz, bI_t, bI_f, zc1]
    exact fin (la, ω) _ _ _ _ dX6_then_28 rfl (by rw [ze] <;> rfl) (by rw [ze] <;> rfl) trivial
  · skip
    obtain ⟨kn, hkn1, hkn2, rfl⟩ := in_c (L := 0) (M := 400) (a := 0) (m := 400) rfl rfl zc1
    have hckn : (nI kn).toNatClampNeg = kn := nI_clamp (by omega)
    refine j_iload_n 12 cx 2 dX6_then_12 rfl ?_
    refine j_i2l 13 cx dX6_then_13 ?_
    refine j_iconst 14 cx 0 dX6_then_14 (by decide) ?_
    refine j_iconst 15 cx 2 dX6_then_15 (by decide) ?_
    refine j_callS_i 16 cx 3 [] [.long (w.toInt64), .int 0, .int 2] (fun _ => wMO o am (sP S) la (nI (sL S)) tk be an va bd ++ ([((am 0), .inl (gI G, 51, .inl (mm (sN S))))] ++ ([((am 3), .inl (gI G, 7, .inl (sF S)))] ++ [((am 2), .inl (gI G, 51, .inl (mm ω)))]))) (c_X6_in (kl K) G (w.toInt64) 0 2) gX6_then_X6_in rfl rfl rfl ⟨by decide, by decide, rfl⟩ ⟨Nat.le_of_ble_eq_true rfl, Nat.le_of_ble_eq_true rfl⟩ ⟨Nat.zero_le _, Nat.zero_le _⟩ rfl (by decide) rfl rfl (Nat.le_of_ble_eq_true rfl) dX6_then_16 (fun _ => rfl) (fun zu3 zk3 => ?_)
    refine j_top (bI (inL (w.toInt64) 0 2)) rfl ?_
    refine j_top (bI (inI w 0 2)) (congrArg bI (inL_i w 0 2)) ?_
    refine j_ifB_ne 19 cx 29 dX6_then_19 (by decide) (fun zc2 => ?_) (fun zc2 => ?_)
    · skip
      rcases in_02 zc2 with rfl | rfl | rfl
      · skip
        refine j_aload_n 29 cx 0 dX6_then_29 rfl ?_
        refine j_callV_v 30 cx 0 [0, 1, 3] [] (fun _ => wMO o am (sP S) la (nI (sL S)) tk be an va bd ++ ([((am 0), .inl (gI G, 51, .inl (mm (sN S))))] ++ ([((am 3), .inl (gI G, 7, .inl (sF S)))] ++ [((am 2), .inl (gI G, 51, .inl (mm (sN S))))]))) (c_X6_thinks (kl K) G o am (sP S) la (nI (sL S)) tk be an va bd (sN S) ω) gX6_then_X6_thinks rfl rfl rfl ⟨rfl, by decide, by decide, rfl⟩ ⟨Nat.le_of_ble_eq_true rfl, Nat.le_of_ble_eq_true rfl⟩ ⟨Nat.zero_le _, Nat.zero_le _⟩ rfl (by decide) (ci := 5) 0 rfl rfl rfl rfl rfl (Nat.le_of_ble_eq_true rfl) dX6_then_30 (fun _ => rfl) (fun zu4 zk4 => ?_)
        refine j_aload_n 33 cx 0 dX6_then_33 rfl ?_
        refine j_iload_n 34 cx 1 dX6_then_34 rfl ?_
        refine j_callV_v 35 cx 1 [0, 1] [.int (nI kn)] (fun zl1 => wMO o am (sP S) zl1 (nI (sL S)) tk be an va bd ++ ([((am 0), .inl (gI G, 51, .inl (mm (daysF (sN S) kn))))] ++ ([((am 3), .inl (gI G, 7, .inl (sF S)))] ++ [((am 2), .inl (gI G, 51, .inl (mm (sN S))))]))) (c_X6_goesFor (kl K) G o am (sP S) la (nI (sL S)) tk be an va bd (sN S) hI kn (by have := hD; omega)) gX6_then_X6_goesFor rfl rfl rfl ⟨rfl, by decide, by decide, rfl⟩ ⟨Nat.le_of_ble_eq_true rfl, Nat.le_of_ble_eq_true rfl⟩ ⟨Nat.zero_le _, Nat.zero_le _⟩ rfl (by decide) (ci := 5) 0 rfl rfl rfl rfl rfl (Nat.le_of_ble_eq_true rfl) dX6_then_35 (fun _ => rfl) (fun zl1 zk5 => ?_)
        refine j_iload_n 38 cx 2 dX6_then_38 rfl ?_
        refine j_iconst 39 cx 2 dX6_then_39 (by decide) ?_
        refine j_icmp_ne_T 40 cx 53 dX6_then_40 (by decide) (by decide) ?_
        refine j_aload_n 53 cx 0 dX6_then_53 rfl ?_
        refine j_get 54 cx 0 0 (T := TX6) (v := .ref ((am 0))) (fun _ h => List.mem_cons_of_mem _ (List.mem_append_right _ (h))) (List.mem_of_getElem? (i := 2) rfl) (ci := 5) rfl (by decide) rfl rfl rfl dX6_then_54 ?_
        refine j_iconst 57 cx 1 dX6_then_57 (by decide) ?_
        refine j_iload_n 58 cx 2 dX6_then_58 rfl ?_
        refine j_iadd 59 cx dX6_then_59 ?_
        refine j_top (nI 1) (nI_add 1 0) ?_
        refine j_iald 60 cx 1 1 rfl rfl (by omega) (by decide) dX6_then_60 ?_
        refine j_top ((daysF (sN S) kn) 0 1) rfl ?_
        refine j_istore_n 61 cx [(3, .int ((daysF (sN S) kn) 0 1)), (0, .ref o), (1, .int (nI kn)), (2, .int 0)] dX6_then_61 (by decide) rfl ?_
        refine j_aload_n 62 cx 1 dX6_then_62 rfl ?_
        refine j_callV_v 63 cx 0 [0, 1, 3] [] (fun _ => wMO o am (sP S) zl1 (nI (sL S)) tk be an va bd ++ ([((am 0), .inl (gI G, 51, .inl (mm (sN S))))] ++ ([((am 3), .inl (gI G, 7, .inl (sF S)))] ++ [((am 2), .inl (gI G, 51, .inl (mm (sN S))))]))) (c_X6_putsBack (kl K) G o am (sP S) zl1 (nI (sL S)) tk be an va bd (daysF (sN S) kn) (sN S)) gX6_then_X6_putsBack rfl rfl rfl ⟨rfl, by decide, by decide, rfl⟩ ⟨Nat.le_of_ble_eq_true rfl, Nat.le_of_ble_eq_true rfl⟩ ⟨Nat.zero_le _, Nat.zero_le _⟩ rfl (by decide) (ci := 5) 0 rfl rfl rfl rfl rfl (Nat.le_of_ble_eq_true rfl) dX6_then_63 (fun _ => rfl) (fun zu6 zk6 => ?_)
        refine j_iload_n 66 cx 0 dX6_then_66 rfl ?_
        have ze : (sp_then (nI kn) 0 S) = ((daysF (sN S) kn) 0 1, S) := by unfold sp_then; simp [daysF_sz, bI_t, bI_f, zc1, hckn, zc2]
        exact fin (zl1, (sN S)) _ _ _ _ dX6_then_67 rfl (by rw [ze] <;> rfl) (by rw [ze] <;> rfl) trivial
      · skip
        refine j_aload_n 29 cx 0 dX6_then_29 rfl ?_
        refine j_callV_v 30 cx 0 [0, 1, 3] [] (fun _ => wMO o am (sP S) la (nI (sL S)) tk be an va bd ++ ([((am 0), .inl (gI G, 51, .inl (mm (sN S))))] ++ ([((am 3), .inl (gI G, 7, .inl (sF S)))] ++ [((am 2), .inl (gI G, 51, .inl (mm (sN S))))]))) (c_X6_thinks (kl K) G o am (sP S) la (nI (sL S)) tk be an va bd (sN S) ω) gX6_then_X6_thinks rfl rfl rfl ⟨rfl, by decide, by decide, rfl⟩ ⟨Nat.le_of_ble_eq_true rfl, Nat.le_of_ble_eq_true rfl⟩ ⟨Nat.zero_le _, Nat.zero_le _⟩ rfl (by decide) (ci := 5) 0 rfl rfl rfl rfl rfl (Nat.le_of_ble_eq_true rfl) dX6_then_30 (fun _ => rfl) (fun zu7 zk7 => ?_)
        refine j_aload_n 33 cx 0 dX6_then_33 rfl ?_
        refine j_iload_n 34 cx 1 dX6_then_34 rfl ?_
        refine j_callV_v 35 cx 1 [0, 1] [.int (nI kn)] (fun zl2 => wMO o am (sP S) zl2 (nI (sL S)) tk be an va bd ++ ([((am 0), .inl (gI G, 51, .inl (mm (daysF (sN S) kn))))] ++ ([((am 3), .inl (gI G, 7, .inl (sF S)))] ++ [((am 2), .inl (gI G, 51, .inl (mm (sN S))))]))) (c_X6_goesFor (kl K) G o am (sP S) la (nI (sL S)) tk be an va bd (sN S) hI kn (by have := hD; omega)) gX6_then_X6_goesFor rfl rfl rfl ⟨rfl, by decide, by decide, rfl⟩ ⟨Nat.le_of_ble_eq_true rfl, Nat.le_of_ble_eq_true rfl⟩ ⟨Nat.zero_le _, Nat.zero_le _⟩ rfl (by decide) (ci := 5) 0 rfl rfl rfl rfl rfl (Nat.le_of_ble_eq_true rfl) dX6_then_35 (fun _ => rfl) (fun zl2 zk8 => ?_)
        refine j_iload_n 38 cx 2 dX6_then_38 rfl ?_
        refine j_iconst 39 cx 2 dX6_then_39 (by decide) ?_
        refine j_icmp_ne_T 40 cx 53 dX6_then_40 (by decide) (by decide) ?_
        refine j_aload_n 53 cx 0 dX6_then_53 rfl ?_
        refine j_get 54 cx 0 0 (T := TX6) (v := .ref ((am 0))) (fun _ h => List.mem_cons_of_mem _ (List.mem_append_right _ (h))) (List.mem_of_getElem? (i := 2) rfl) (ci := 5) rfl (by decide) rfl rfl rfl dX6_then_54 ?_
        refine j_iconst 57 cx 1 dX6_then_57 (by decide) ?_
        refine j_iload_n 58 cx 2 dX6_then_58 rfl ?_
        refine j_iadd 59 cx dX6_then_59 ?_
        refine j_top (nI 2) (nI_add 1 1) ?_
        refine j_iald 60 cx 1 2 rfl rfl (by omega) (by decide) dX6_then_60 ?_
        refine j_top ((daysF (sN S) kn) 0 2) rfl ?_
        refine j_istore_n 61 cx [(3, .int ((daysF (sN S) kn) 0 2)), (0, .ref o), (1, .int (nI kn)), (2, .int 1)] dX6_then_61 (by decide) rfl ?_
        refine j_aload_n 62 cx 1 dX6_then_62 rfl ?_
        refine j_callV_v 63 cx 0 [0, 1, 3] [] (fun _ => wMO o am (sP S) zl2 (nI (sL S)) tk be an va bd ++ ([((am 0), .inl (gI G, 51, .inl (mm (sN S))))] ++ ([((am 3), .inl (gI G, 7, .inl (sF S)))] ++ [((am 2), .inl (gI G, 51, .inl (mm (sN S))))]))) (c_X6_putsBack (kl K) G o am (sP S) zl2 (nI (sL S)) tk be an va bd (daysF (sN S) kn) (sN S)) gX6_then_X6_putsBack rfl rfl rfl ⟨rfl, by decide, by decide, rfl⟩ ⟨Nat.le_of_ble_eq_true rfl, Nat.le_of_ble_eq_true rfl⟩ ⟨Nat.zero_le _, Nat.zero_le _⟩ rfl (by decide) (ci := 5) 0 rfl rfl rfl rfl rfl (Nat.le_of_ble_eq_true rfl) dX6_then_63 (fun _ => rfl) (fun zu9 zk9 => ?_)
        refine j_iload_n 66 cx 0 dX6_then_66 rfl ?_
        have ze : (sp_then (nI kn) 1 S) = ((daysF (sN S) kn) 0 2, S) := by unfold sp_then; simp [daysF_sz, bI_t, bI_f, zc1, hckn, zc2]
        exact fin (zl2, (sN S)) _ _ _ _ dX6_then_67 rfl (by rw [ze] <;> rfl) (by rw [ze] <;> rfl) trivial
      · skip
        refine j_aload_n 29 cx 0 dX6_then_29 rfl ?_
        refine j_callV_v 30 cx 0 [0, 1, 3] [] (fun _ => wMO o am (sP S) la (nI (sL S)) tk be an va bd ++ ([((am 0), .inl (gI G, 51, .inl (mm (sN S))))] ++ ([((am 3), .inl (gI G, 7, .inl (sF S)))] ++ [((am 2), .inl (gI G, 51, .inl (mm (sN S))))]))) (c_X6_thinks (kl K) G o am (sP S) la (nI (sL S)) tk be an va bd (sN S) ω) gX6_then_X6_thinks rfl rfl rfl ⟨rfl, by decide, by decide, rfl⟩ ⟨Nat.le_of_ble_eq_true rfl, Nat.le_of_ble_eq_true rfl⟩ ⟨Nat.zero_le _, Nat.zero_le _⟩ rfl (by decide) (ci := 5) 0 rfl rfl rfl rfl rfl (Nat.le_of_ble_eq_true rfl) dX6_then_30 (fun _ => rfl) (fun zu10 zk10 => ?_)
        refine j_aload_n 33 cx 0 dX6_then_33 rfl ?_
        refine j_iload_n 34 cx 1 dX6_then_34 rfl ?_
        refine j_callV_v 35 cx 1 [0, 1] [.int (nI kn)] (fun zl3 => wMO o am (sP S) zl3 (nI (sL S)) tk be an va bd ++ ([((am 0), .inl (gI G, 51, .inl (mm (daysF (sN S) kn))))] ++ ([((am 3), .inl (gI G, 7, .inl (sF S)))] ++ [((am 2), .inl (gI G, 51, .inl (mm (sN S))))]))) (c_X6_goesFor (kl K) G o am (sP S) la (nI (sL S)) tk be an va bd (sN S) hI kn (by have := hD; omega)) gX6_then_X6_goesFor rfl rfl rfl ⟨rfl, by decide, by decide, rfl⟩ ⟨Nat.le_of_ble_eq_true rfl, Nat.le_of_ble_eq_true rfl⟩ ⟨Nat.zero_le _, Nat.zero_le _⟩ rfl (by decide) (ci := 5) 0 rfl rfl rfl rfl rfl (Nat.le_of_ble_eq_true rfl) dX6_then_35 (fun _ => rfl) (fun zl3 zk11 => ?_)
        refine j_iload_n 38 cx 2 dX6_then_38 rfl ?_
        refine j_iconst 39 cx 2 dX6_then_39 (by decide) ?_
        refine j_icmp_ne_F 40 cx 53 dX6_then_40 (by decide) (by decide) ?_
        refine j_aload_n 43 cx 0 dX6_then_43 rfl ?_
        refine j_callV_i 44 cx 0 [0, 1] [] (fun _ => wMO o am (sP S) zl3 (nI (sL S)) tk be an va bd ++ ([((am 0), .inl (gI G, 51, .inl (mm (daysF (sN S) kn))))] ++ ([((am 3), .inl (gI G, 7, .inl (sF S)))] ++ [((am 2), .inl (gI G, 51, .inl (mm (sN S))))]))) (c_X6_doneOnes (kl K) G o am (sP S) zl3 (nI (sL S)) tk be an va bd (daysF (sN S) kn)  (inv_daysF hI kn (by have := hD; omega)).1 ) gX6_then_X6_doneOnes rfl rfl rfl ⟨rfl, by decide, by decide, rfl⟩ ⟨Nat.le_of_ble_eq_true rfl, Nat.le_of_ble_eq_true rfl⟩ ⟨Nat.zero_le _, Nat.zero_le _⟩ rfl (by decide) (ci := 5) 0 rfl rfl rfl rfl rfl (Nat.le_of_ble_eq_true rfl) dX6_then_44 (fun _ => rfl) (fun zu12 zk12 => ?_)
        refine j_top (setF (daysF (sN S) kn) (done (daysF (sN S) kn)) (szN (daysF (sN S) kn))) rfl ?_
        refine j_top (nI (bsN (done (daysF (sN S) kn)) (szN (daysF (sN S) kn)))) (setF_bs _ _ _ (by have h9 := daysF_sz (sN S) kn; have h8 := hI.sz8; omega)) ?_
        refine j_callS_i 47 cx 1 [] [.int (nI (bsN (done (daysF (sN S) kn)) (szN (daysF (sN S) kn))))] (fun _ => wMO o am (sP S) zl3 (nI (sL S)) tk be an va bd ++ ([((am 0), .inl (gI G, 51, .inl (mm (daysF (sN S) kn))))] ++ ([((am 3), .inl (gI G, 7, .inl (sF S)))] ++ [((am 2), .inl (gI G, 51, .inl (mm (sN S))))]))) (c_X6_bits (kl K) G (bsN (done (daysF (sN S) kn)) (szN (daysF (sN S) kn))) (bsN_256 _ (by have h9 := daysF_sz (sN S) kn; have h8 := hI.sz8; omega))) gX6_then_X6_bits rfl rfl rfl ⟨by decide, by decide, rfl⟩ ⟨Nat.le_of_ble_eq_true rfl, Nat.le_of_ble_eq_true rfl⟩ ⟨Nat.zero_le _, Nat.zero_le _⟩ rfl (by decide) rfl rfl (Nat.le_of_ble_eq_true rfl) dX6_then_47 (fun _ => rfl) (fun zu13 zk13 => ?_)
        refine j_top (nI (pcF 9 (bsN (done (daysF (sN S) kn)) (szN (daysF (sN S) kn))))) rfl ?_
        refine j_top (nI (szN (daysF (sN S) kn) - undN (daysF (sN S) kn) (szN (daysF (sN S) kn)))) (pc_und _ (by have h9 := daysF_sz (sN S) kn; have h8 := hI.sz8; omega)) ?_
        refine j_goto 50 cx 61 dX6_then_50 (by decide) ?_
        refine j_istore_n 61 cx [(3, .int (nI (szN (daysF (sN S) kn) - undN (daysF (sN S) kn) (szN (daysF (sN S) kn))))), (0, .ref o), (1, .int (nI kn)), (2, .int 2)] dX6_then_61 (by decide) rfl ?_
        refine j_aload_n 62 cx 1 dX6_then_62 rfl ?_
        refine j_callV_v 63 cx 0 [0, 1, 3] [] (fun _ => wMO o am (sP S) zl3 (nI (sL S)) tk be an va bd ++ ([((am 0), .inl (gI G, 51, .inl (mm (sN S))))] ++ ([((am 3), .inl (gI G, 7, .inl (sF S)))] ++ [((am 2), .inl (gI G, 51, .inl (mm (sN S))))]))) (c_X6_putsBack (kl K) G o am (sP S) zl3 (nI (sL S)) tk be an va bd (daysF (sN S) kn) (sN S)) gX6_then_X6_putsBack rfl rfl rfl ⟨rfl, by decide, by decide, rfl⟩ ⟨Nat.le_of_ble_eq_true rfl, Nat.le_of_ble_eq_true rfl⟩ ⟨Nat.zero_le _, Nat.zero_le _⟩ rfl (by decide) (ci := 5) 0 rfl rfl rfl rfl rfl (Nat.le_of_ble_eq_true rfl) dX6_then_63 (fun _ => rfl) (fun zu14 zk14 => ?_)
        refine j_iload_n 66 cx 0 dX6_then_66 rfl ?_
        have ze : (sp_then (nI kn) 2 S) = (nI (szN (daysF (sN S) kn) - undN (daysF (sN S) kn) (szN (daysF (sN S) kn))), S) := by unfold sp_then; simp [daysF_sz, bI_t, bI_f, zc1, hckn, zc2]
        exact fin (zl3, (sN S)) _ _ _ _ dX6_then_67 rfl (by rw [ze] <;> rfl) (by rw [ze] <;> rfl) trivial
    · skip
      refine j_aload_n 22 cx 0 dX6_then_22 rfl ?_
      refine j_ldc 23 cx (v := -1000000001) (List.mem_of_getElem? (i := 1) rfl) dX6_then_23 ?_
      refine j_callV_i 25 cx 1 [0, 2] [.int (fcode 0)] (fun _ => wMO o am (sP S) la (nI (sL S)) tk be an va bd ++ ([((am 0), .inl (gI G, 51, .inl (mm (sN S))))] ++ ([((am 3), .inl (gI G, 7, .inl (upd (sF S) 0 ((sF S) 0 + 1))))] ++ [((am 2), .inl (gI G, 51, .inl (mm ω)))]))) (c_X6_finds (kl K) G o am (sP S) la (nI (sL S)) tk be an va bd (sF S) 0 (by decide)) gX6_then_X6_finds rfl rfl rfl ⟨rfl, by decide, by decide, rfl⟩ ⟨Nat.le_of_ble_eq_true rfl, Nat.le_of_ble_eq_true rfl⟩ ⟨Nat.zero_le _, Nat.zero_le _⟩ rfl (by decide) (ci := 5) 0 rfl rfl rfl rfl rfl (Nat.le_of_ble_eq_true rfl) dX6_then_25 (fun _ => rfl) (fun zu15 zk15 => ?_)
      refine j_top (fcode 0) rfl ?_
      have ze : (sp_then (nI kn) w S) = bad S 0 := by unfold sp_then; simp [daysF_sz, bI_t, bI_f, zc1, hckn, zc2]
      exact fin (la, ω) _ _ _ _ dX6_then_28 rfl (by rw [ze] <;> rfl) (by rw [ze] <;> rfl) trivial
set_option maxRecDepth 100000 in
set_option maxHeartbeats 4000000 in
theorem c_X6_done (l : Launch) (G : pG) (o : Nat) (am : Nat → Nat) (S : St) (la tk be an va : Int32) (bd : Bool) (ω : Nu) (hI : Inv (sN S)) (hD : dyN (sN S) ≤ 9999) (p : Int32) : KI l G yX6_done wsX6_done ({ frames := 8, cells := 0, slots := 0, locals := 180 } : Room) [.ref o, .int p] (wMO o am (sP S) la (nI (sL S)) tk be an va bd ++ ([((am 0), .inl (gI G, 51, .inl (mm (sN S))))] ++ ([((am 3), .inl (gI G, 7, .inl (sF S)))] ++ [((am 2), .inl (gI G, 51, .inl (mm ω)))]))) (S := (Int32 × Nu)) (fun _ => True) (fun u => (sp_done p S).1) (fun u => wMO o am (sP S) (u.1) (nI (sL S)) tk be an va bd ++ ([((am 0), .inl (gI G, 51, .inl (mm (sN (sp_done p S).2))))] ++ ([((am 3), .inl (gI G, 7, .inl (sF (sp_done p S).2)))] ++ [((am 2), .inl (gI G, 51, .inl (mm u.2)))]))) := by
  refine ki_of [(0, .ref o), (1, .int p)] (own := RX6) (cc := cX6_done) (nL := 2) (by decide +kernel) rfl rfl (Nat.le_of_ble_eq_true rfl) rfl (fun _ => rfl) (fun K cx fin => ?_)
  refine j_aload_n 0 cx 0 dX6_done_0 rfl ?_
  refine j_iload_n 1 cx 1 dX6_done_1 rfl ?_
  refine j_callV_i 2 cx 1 [0, 1] [.int p] (fun _ => wMO o am (sP S) la (nI (sL S)) tk be an va bd ++ ([((am 0), .inl (gI G, 51, .inl (mm (sN S))))] ++ ([((am 3), .inl (gI G, 7, .inl (sF S)))] ++ [((am 2), .inl (gI G, 51, .inl (mm ω)))]))) (c_X6_isPart (kl K) G o am (sP S) la (nI (sL S)) tk be an va bd (sN S) p hI ) gX6_done_X6_isPart rfl rfl rfl ⟨rfl, by decide, by decide, rfl⟩ ⟨Nat.le_of_ble_eq_true rfl, Nat.le_of_ble_eq_true rfl⟩ ⟨Nat.zero_le _, Nat.zero_le _⟩ rfl (by decide) (ci := 5) 0 rfl rfl rfl rfl rfl (Nat.le_of_ble_eq_true rfl) dX6_done_2 (fun _ => rfl) (fun zu1 zk1 => ?_)
  refine j_top (bI (inI p 0 (nI (szN (sN S)) - 1))) rfl ?_
  refine j_ifB_ne 5 cx 15 dX6_done_5 (by decide) (fun zc1 => ?_) (fun zc1 => ?_)
  · skip
    obtain ⟨k, hk, rfl⟩ := in_n (by have := hI.sz8; omega) zc1
    have h8 := hI.sz8
    have hkc : (nI k).toNatClampNeg = k := nI_clamp (by omega)
    refine j_aload_n 15 cx 0 dX6_done_15 rfl ?_
    refine j_callV_v 16 cx 0 [0, 1, 3] [] (fun _ => wMO o am (sP S) la (nI (sL S)) tk be an va bd ++ ([((am 0), .inl (gI G, 51, .inl (mm (sN S))))] ++ ([((am 3), .inl (gI G, 7, .inl (sF S)))] ++ [((am 2), .inl (gI G, 51, .inl (mm (sN S))))]))) (c_X6_thinks (kl K) G o am (sP S) la (nI (sL S)) tk be an va bd (sN S) ω) gX6_done_X6_thinks rfl rfl rfl ⟨rfl, by decide, by decide, rfl⟩ ⟨Nat.le_of_ble_eq_true rfl, Nat.le_of_ble_eq_true rfl⟩ ⟨Nat.zero_le _, Nat.zero_le _⟩ rfl (by decide) (ci := 5) 0 rfl rfl rfl rfl rfl (Nat.le_of_ble_eq_true rfl) dX6_done_16 (fun _ => rfl) (fun zu2 zk2 => ?_)
    refine j_aload_n 19 cx 0 dX6_done_19 rfl ?_
    refine j_aload_n 20 cx 0 dX6_done_20 rfl ?_
    refine j_iload_n 21 cx 1 dX6_done_21 rfl ?_
    refine j_sipush 22 cx 400 dX6_done_22 (by decide) ?_
    refine j_callV_i 25 cx 2 [0, 1, 3] [.int (nI k), .int 400] (fun zl1 => wMO o am (sP S) zl1 (nI (sL S)) tk be an va bd ++ ([((am 0), .inl (gI G, 51, .inl (mm (sN S))))] ++ ([((am 3), .inl (gI G, 7, .inl (sF S)))] ++ [((am 2), .inl (gI G, 51, .inl (mm (sN S))))]))) (c_X6_doneIn (kl K) G o am (sP S) la (nI (sL S)) tk be an va bd (sN S) (sN S) hI k (by omega) 400 (by omega) (by have := hD; omega)) gX6_done_X6_doneIn rfl rfl rfl ⟨rfl, by decide, by decide, rfl⟩ ⟨Nat.le_of_ble_eq_true rfl, Nat.le_of_ble_eq_true rfl⟩ ⟨Nat.zero_le _, Nat.zero_le _⟩ rfl (by decide) (ci := 5) 0 rfl rfl rfl rfl rfl (Nat.le_of_ble_eq_true rfl) dX6_done_25 (fun _ => rfl) (fun zl1 zk3 => ?_)
    refine j_top (tM 400 (till (gDone k) 400 (sN S))) rfl ?_
    refine j_callV_i 28 cx 1 [0, 2] [.int (tM 400 (till (gDone k) 400 (sN S)))] (fun _ => wMO o am (sP S) zl1 (nI (sL S)) tk be an va bd ++ ([((am 0), .inl (gI G, 51, .inl (mm (sN S))))] ++ ([((am 3), .inl (gI G, 7, .inl (oF (tM 400 (till (gDone k) 400 (sN S))) (sF S))))] ++ [((am 2), .inl (gI G, 51, .inl (mm (sN S))))]))) (c_X6_orNone (kl K) G o am (sP S) zl1 (nI (sL S)) tk be an va bd (sF S) (tM 400 (till (gDone k) 400 (sN S)))) gX6_done_X6_orNone rfl rfl rfl ⟨rfl, by decide, by decide, rfl⟩ ⟨Nat.le_of_ble_eq_true rfl, Nat.le_of_ble_eq_true rfl⟩ ⟨Nat.zero_le _, Nat.zero_le _⟩ rfl (by decide) (ci := 5) 0 rfl rfl rfl rfl rfl (Nat.le_of_ble_eq_true rfl) dX6_done_28 (fun _ => rfl) (fun zu4 zk4 => ?_)
    refine j_top (oN (tM 400 (till (gDone k) 400 (sN S)))) rfl ?_
    have ze : (sp_done (nI k) S) = (oN (tM 400 (till (gDone k) 400 (sN S))), stF S (oF (tM 400 (till (gDone k) 400 (sN S))) (sF S))) := by unfold sp_done; simp [isP_eq hI, orN_eq, oN_400, oF_400, bI_t, bI_f, zc1, hkc]
    exact fin (zl1, (sN S)) _ _ _ _ dX6_done_31 rfl (by rw [ze] <;> rfl) (by rw [ze] <;> rfl) trivial
  · skip
    refine j_aload_n 8 cx 0 dX6_done_8 rfl ?_
    refine j_ldc 9 cx (v := -1000000001) (List.mem_of_getElem? (i := 1) rfl) dX6_done_9 ?_
    refine j_callV_i 11 cx 1 [0, 2] [.int (fcode 0)] (fun _ => wMO o am (sP S) la (nI (sL S)) tk be an va bd ++ ([((am 0), .inl (gI G, 51, .inl (mm (sN S))))] ++ ([((am 3), .inl (gI G, 7, .inl (upd (sF S) 0 ((sF S) 0 + 1))))] ++ [((am 2), .inl (gI G, 51, .inl (mm ω)))]))) (c_X6_finds (kl K) G o am (sP S) la (nI (sL S)) tk be an va bd (sF S) 0 (by decide)) gX6_done_X6_finds rfl rfl rfl ⟨rfl, by decide, by decide, rfl⟩ ⟨Nat.le_of_ble_eq_true rfl, Nat.le_of_ble_eq_true rfl⟩ ⟨Nat.zero_le _, Nat.zero_le _⟩ rfl (by decide) (ci := 5) 0 rfl rfl rfl rfl rfl (Nat.le_of_ble_eq_true rfl) dX6_done_11 (fun _ => rfl) (fun zu5 zk5 => ?_)
    refine j_top (fcode 0) rfl ?_
    have ze : (sp_done p S) = bad S 0 := by unfold sp_done; simp [isP_eq hI, orN_eq, oN_400, oF_400, bI_t, bI_f, zc1]
    exact fin (la, ω) _ _ _ _ dX6_done_14 rfl (by rw [ze] <;> rfl) (by rw [ze] <;> rfl) trivial
set_option maxRecDepth 100000 in
set_option maxHeartbeats 4000000 in
theorem c_X6_all (l : Launch) (G : pG) (o : Nat) (am : Nat → Nat) (S : St) (la tk be an va : Int32) (bd : Bool) (ω : Nu) (hI : Inv (sN S)) (hD : dyN (sN S) ≤ 9999)  : KI l G yX6_all wsX6_all ({ frames := 8, cells := 0, slots := 0, locals := 178 } : Room) [.ref o] (wMO o am (sP S) la (nI (sL S)) tk be an va bd ++ ([((am 0), .inl (gI G, 51, .inl (mm (sN S))))] ++ ([((am 3), .inl (gI G, 7, .inl (sF S)))] ++ [((am 2), .inl (gI G, 51, .inl (mm ω)))]))) (S := (Int32 × Nu)) (fun _ => True) (fun u => (sp_all S).1) (fun u => wMO o am (sP S) (u.1) (nI (sL S)) tk be an va bd ++ ([((am 0), .inl (gI G, 51, .inl (mm (sN (sp_all S).2))))] ++ ([((am 3), .inl (gI G, 7, .inl (sF (sp_all S).2)))] ++ [((am 2), .inl (gI G, 51, .inl (mm u.2)))]))) := by
  refine ki_of [(0, .ref o)] (own := RX6) (cc := cX6_all) (nL := 1) (by decide +kernel) rfl rfl (Nat.le_of_ble_eq_true rfl) rfl (fun _ => rfl) (fun K cx fin => ?_)
  refine j_aload_n 0 cx 0 dX6_all_0 rfl ?_
  refine j_callV_v 1 cx 0 [0, 1, 3] [] (fun _ => wMO o am (sP S) la (nI (sL S)) tk be an va bd ++ ([((am 0), .inl (gI G, 51, .inl (mm (sN S))))] ++ ([((am 3), .inl (gI G, 7, .inl (sF S)))] ++ [((am 2), .inl (gI G, 51, .inl (mm (sN S))))]))) (c_X6_thinks (kl K) G o am (sP S) la (nI (sL S)) tk be an va bd (sN S) ω) gX6_all_X6_thinks rfl rfl rfl ⟨rfl, by decide, by decide, rfl⟩ ⟨Nat.le_of_ble_eq_true rfl, Nat.le_of_ble_eq_true rfl⟩ ⟨Nat.zero_le _, Nat.zero_le _⟩ rfl (by decide) (ci := 5) 0 rfl rfl rfl rfl rfl (Nat.le_of_ble_eq_true rfl) dX6_all_1 (fun _ => rfl) (fun zu1 zk1 => ?_)
  refine j_aload_n 4 cx 0 dX6_all_4 rfl ?_
  refine j_aload_n 5 cx 0 dX6_all_5 rfl ?_
  refine j_callV_i 6 cx 0 [0, 1, 3] [] (fun zl1 => wMO o am (sP S) zl1 (nI (sL S)) tk be an va bd ++ ([((am 0), .inl (gI G, 51, .inl (mm (sN S))))] ++ ([((am 3), .inl (gI G, 7, .inl (sF S)))] ++ [((am 2), .inl (gI G, 51, .inl (mm (sN S))))]))) (c_X6_allIn (kl K) G o am (sP S) la (nI (sL S)) tk be an va bd (sN S) (sN S) hI (by have := hD; omega)) gX6_all_X6_allIn rfl rfl rfl ⟨rfl, by decide, by decide, rfl⟩ ⟨Nat.le_of_ble_eq_true rfl, Nat.le_of_ble_eq_true rfl⟩ ⟨Nat.zero_le _, Nat.zero_le _⟩ rfl (by decide) (ci := 5) 0 rfl rfl rfl rfl rfl (Nat.le_of_ble_eq_true rfl) dX6_all_6 (fun _ => rfl) (fun zl1 zk2 => ?_)
  refine j_top (tM 400 (till gAll 400 (sN S))) rfl ?_
  refine j_callV_i 9 cx 1 [0, 2] [.int (tM 400 (till gAll 400 (sN S)))] (fun _ => wMO o am (sP S) zl1 (nI (sL S)) tk be an va bd ++ ([((am 0), .inl (gI G, 51, .inl (mm (sN S))))] ++ ([((am 3), .inl (gI G, 7, .inl (oF (tM 400 (till gAll 400 (sN S))) (sF S))))] ++ [((am 2), .inl (gI G, 51, .inl (mm (sN S))))]))) (c_X6_orNone (kl K) G o am (sP S) zl1 (nI (sL S)) tk be an va bd (sF S) (tM 400 (till gAll 400 (sN S)))) gX6_all_X6_orNone rfl rfl rfl ⟨rfl, by decide, by decide, rfl⟩ ⟨Nat.le_of_ble_eq_true rfl, Nat.le_of_ble_eq_true rfl⟩ ⟨Nat.zero_le _, Nat.zero_le _⟩ rfl (by decide) (ci := 5) 0 rfl rfl rfl rfl rfl (Nat.le_of_ble_eq_true rfl) dX6_all_9 (fun _ => rfl) (fun zu3 zk3 => ?_)
  refine j_top (oN (tM 400 (till gAll 400 (sN S)))) rfl ?_
  have ze : (sp_all S) = (oN (tM 400 (till gAll 400 (sN S))), stF S (oF (tM 400 (till gAll 400 (sN S))) (sF S))) := by unfold sp_all; simp [isP_eq hI, orN_eq, oN_400, oF_400, bI_t, bI_f]
  exact fin (zl1, (sN S)) _ _ _ _ dX6_all_12 rfl (by rw [ze] <;> rfl) (by rw [ze] <;> rfl) trivial
set_option maxRecDepth 100000 in
set_option maxHeartbeats 4000000 in
theorem c_X6_played (l : Launch) (G : pG) (o : Nat) (am : Nat → Nat) (S : St) (la tk be an va : Int32) (bd : Bool) (ω : Nu) (hI : Inv (sN S)) (hD : dyN (sN S) ≤ 9999) (p : Int32) : KI l G yX6_played wsX6_played ({ frames := 7, cells := 0, slots := 0, locals := 157 } : Room) [.ref o, .int p] (wMO o am (sP S) la (nI (sL S)) tk be an va bd ++ ([((am 0), .inl (gI G, 51, .inl (mm (sN S))))] ++ ([((am 3), .inl (gI G, 7, .inl (sF S)))] ++ [((am 2), .inl (gI G, 51, .inl (mm ω)))]))) (S := (Int32 × Nu)) (fun _ => True) (fun u => (sp_played p S).1) (fun u => wMO o am (sP S) (u.1) (nI (sL S)) tk be an va bd ++ ([((am 0), .inl (gI G, 51, .inl (mm (sN (sp_played p S).2))))] ++ ([((am 3), .inl (gI G, 7, .inl (sF (sp_played p S).2)))] ++ [((am 2), .inl (gI G, 51, .inl (mm u.2)))]))) := by
  refine ki_of [(0, .ref o), (1, .int p)] (own := RX6) (cc := cX6_played) (nL := 3) (by decide +kernel) rfl rfl (Nat.le_of_ble_eq_true rfl) rfl (fun _ => rfl) (fun K cx fin => ?_)
  refine j_aload_n 0 cx 0 dX6_played_0 rfl ?_
  refine j_iload_n 1 cx 1 dX6_played_1 rfl ?_
  refine j_callV_i 2 cx 1 [0, 1] [.int p] (fun _ => wMO o am (sP S) la (nI (sL S)) tk be an va bd ++ ([((am 0), .inl (gI G, 51, .inl (mm (sN S))))] ++ ([((am 3), .inl (gI G, 7, .inl (sF S)))] ++ [((am 2), .inl (gI G, 51, .inl (mm ω)))]))) (c_X6_isPart (kl K) G o am (sP S) la (nI (sL S)) tk be an va bd (sN S) p hI ) gX6_played_X6_isPart rfl rfl rfl ⟨rfl, by decide, by decide, rfl⟩ ⟨Nat.le_of_ble_eq_true rfl, Nat.le_of_ble_eq_true rfl⟩ ⟨Nat.zero_le _, Nat.zero_le _⟩ rfl (by decide) (ci := 5) 0 rfl rfl rfl rfl rfl (Nat.le_of_ble_eq_true rfl) dX6_played_2 (fun _ => rfl) (fun zu1 zk1 => ?_)
  refine j_top (bI (inI p 0 (nI (szN (sN S)) - 1))) rfl ?_
  refine j_ifB_ne 5 cx 15 dX6_played_5 (by decide) (fun zc1 => ?_) (fun zc1 => ?_)
  · skip
    obtain ⟨k, hk, rfl⟩ := in_n (by have := hI.sz8; omega) zc1
    have h8 := hI.sz8
    have hkc : (nI k).toNatClampNeg = k := nI_clamp (by omega)
    refine j_aload_n 15 cx 0 dX6_played_15 rfl ?_
    refine j_callV_v 16 cx 0 [0, 1, 3] [] (fun _ => wMO o am (sP S) la (nI (sL S)) tk be an va bd ++ ([((am 0), .inl (gI G, 51, .inl (mm (sN S))))] ++ ([((am 3), .inl (gI G, 7, .inl (sF S)))] ++ [((am 2), .inl (gI G, 51, .inl (mm (sN S))))]))) (c_X6_thinks (kl K) G o am (sP S) la (nI (sL S)) tk be an va bd (sN S) ω) gX6_played_X6_thinks rfl rfl rfl ⟨rfl, by decide, by decide, rfl⟩ ⟨Nat.le_of_ble_eq_true rfl, Nat.le_of_ble_eq_true rfl⟩ ⟨Nat.zero_le _, Nat.zero_le _⟩ rfl (by decide) (ci := 5) 0 rfl rfl rfl rfl rfl (Nat.le_of_ble_eq_true rfl) dX6_played_16 (fun _ => rfl) (fun zu2 zk2 => ?_)
    refine j_iconst 19 cx 1 dX6_played_19 (by decide) ?_
    refine j_istore_n 20 cx [(2, .int 1), (0, .ref o), (1, .int (nI k))] dX6_played_20 (by decide) rfl ?_
    refine j_aload_n 21 cx 1 dX6_played_21 rfl ?_
    refine j_callV_v 22 cx 0 [0, 1] [] (fun _ => wMO o am (sP S) (oI (loud (sN S))) (nI (sL S)) tk be an va bd ++ ([((am 0), .inl (gI G, 51, .inl (mm (dayF (sN S)))))] ++ ([((am 3), .inl (gI G, 7, .inl (sF S)))] ++ [((am 2), .inl (gI G, 51, .inl (mm (sN S))))]))) (c_X6_goes (kl K) G o am (sP S) la (nI (sL S)) tk be an va bd (sN S) hI) gX6_played_X6_goes rfl rfl rfl ⟨rfl, by decide, by decide, rfl⟩ ⟨Nat.le_of_ble_eq_true rfl, Nat.le_of_ble_eq_true rfl⟩ ⟨Nat.zero_le _, Nat.zero_le _⟩ rfl (by decide) (ci := 5) 0 rfl rfl rfl rfl rfl (Nat.le_of_ble_eq_true rfl) dX6_played_22 (fun _ => rfl) (fun zu3 zk3 => ?_)
    have L25 : ∀ d : Nat, ∀ (j : Nat), (j + d = 400) → (TI (gPl k) 399 (sN S) d j) → JJ G K 0 0 (wMO o am (sP S) (oI (loud (daysF (sN S) j))) (nI (sL S)) tk be an va bd ++ ([((am 0), .inl (gI G, 51, .inl (mm (daysF (sN S) (j + 1)))))] ++ ([((am 3), .inl (gI G, 7, .inl (sF S)))] ++ [((am 2), .inl (gI G, 51, .inl (mm (sN S))))]))) [(2, .int (nI (j + 1))), (1, .int (nI k)), (0, .ref o)] 25 [] := by
      intro d
      induction d with
      | zero =>
        intro j hj hT
        refine j_iload_n 25 cx 0 dX6_played_25 rfl ?_
        refine j_sipush 26 cx 400 dX6_played_26 (by decide) ?_
        refine j_icmp_gt_T 29 cx 50 dX6_played_29 (by decide) (nI_lt (a := 400) (by omega) (by omega)) ?_
        refine j_aload_n 50 cx 2 dX6_played_50 rfl ?_
        refine j_callV_v 51 cx 0 [0, 1, 3] [] (fun _ => wMO o am (sP S) (oI (loud (daysF (sN S) j))) (nI (sL S)) tk be an va bd ++ ([((am 0), .inl (gI G, 51, .inl (mm (sN S))))] ++ ([((am 3), .inl (gI G, 7, .inl (sF S)))] ++ [((am 2), .inl (gI G, 51, .inl (mm (sN S))))]))) (c_X6_putsBack (kl K) G o am (sP S) (oI (loud (daysF (sN S) j))) (nI (sL S)) tk be an va bd (daysF (sN S) (j + 1)) (sN S)) gX6_played_X6_putsBack rfl rfl rfl ⟨rfl, by decide, by decide, rfl⟩ ⟨Nat.le_of_ble_eq_true rfl, Nat.le_of_ble_eq_true rfl⟩ ⟨Nat.zero_le _, Nat.zero_le _⟩ rfl (by decide) (ci := 5) 0 rfl rfl rfl rfl rfl (Nat.le_of_ble_eq_true rfl) dX6_played_51 (fun _ => rfl) (fun zu4 zk4 => ?_)
        refine j_iload_n 54 cx 0 dX6_played_54 rfl ?_
        refine j_sipush 55 cx 400 dX6_played_55 (by decide) ?_
        refine j_icmp_le_F 58 cx 70 dX6_played_58 (by decide) (nI_ge (a := 400) (by omega) (by omega)) ?_
        refine j_aload_n 61 cx 2 dX6_played_61 rfl ?_
        refine j_ldc 62 cx (v := -1000000004) (List.mem_of_getElem? (i := 3) rfl) dX6_played_62 ?_
        refine j_callV_i 64 cx 1 [0, 2] [.int (fcode 3)] (fun _ => wMO o am (sP S) (oI (loud (daysF (sN S) j))) (nI (sL S)) tk be an va bd ++ ([((am 0), .inl (gI G, 51, .inl (mm (sN S))))] ++ ([((am 3), .inl (gI G, 7, .inl (upd (sF S) 3 ((sF S) 3 + 1))))] ++ [((am 2), .inl (gI G, 51, .inl (mm (sN S))))]))) (c_X6_finds (kl K) G o am (sP S) (oI (loud (daysF (sN S) j))) (nI (sL S)) tk be an va bd (sF S) 3 (by decide)) gX6_played_X6_finds rfl rfl rfl ⟨rfl, by decide, by decide, rfl⟩ ⟨Nat.le_of_ble_eq_true rfl, Nat.le_of_ble_eq_true rfl⟩ ⟨Nat.zero_le _, Nat.zero_le _⟩ rfl (by decide) (ci := 5) 0 rfl rfl rfl rfl rfl (Nat.le_of_ble_eq_true rfl) dX6_played_64 (fun _ => rfl) (fun zu5 zk5 => ?_)
        refine j_top (fcode 3) rfl ?_
        refine j_goto 67 cx 71 dX6_played_67 (by decide) ?_
        have ze : (sp_played (nI k) S) = bad S 3 := by unfold sp_played orN; simp [isP_eq hI, zc1, hkc, ti_end hT, show ¬ j + 1 ≤ 400 from by omega]
        exact fin ((oI (loud (daysF (sN S) j))), (sN S)) _ _ _ _ dX6_played_71 rfl (by rw [ze] <;> rfl) (by rw [ze] <;> rfl) trivial
      | succ d ih25 =>
        intro j hj hT
        refine j_iload_n 25 cx 0 dX6_played_25 rfl ?_
        refine j_sipush 26 cx 400 dX6_played_26 (by decide) ?_
        refine j_icmp_gt_F 29 cx 50 dX6_played_29 (by decide) (nI_nlt (a := 400) (by omega) (by omega)) ?_
        refine j_aload_n 32 cx 2 dX6_played_32 rfl ?_
        refine j_get 33 cx 0 5 (T := TX6) (v := .int ((oI (loud (daysF (sN S) j))))) (fun _ h => List.mem_cons_of_mem _ (List.mem_append_right _ (h))) (List.mem_of_getElem? (i := 2) rfl) (ci := 5) rfl (by decide) rfl rfl rfl dX6_played_33 ?_
        refine j_iload_n 36 cx 1 dX6_played_36 rfl ?_
        refine j_icmp_eq 37 cx 50 dX6_played_37 (by decide) (fun zc2 => ?_) (fun zc2 => ?_)
        · skip
          refine j_aload_n 50 cx 2 dX6_played_50 rfl ?_
          refine j_callV_v 51 cx 0 [0, 1, 3] [] (fun _ => wMO o am (sP S) (oI (loud (daysF (sN S) j))) (nI (sL S)) tk be an va bd ++ ([((am 0), .inl (gI G, 51, .inl (mm (sN S))))] ++ ([((am 3), .inl (gI G, 7, .inl (sF S)))] ++ [((am 2), .inl (gI G, 51, .inl (mm (sN S))))]))) (c_X6_putsBack (kl K) G o am (sP S) (oI (loud (daysF (sN S) j))) (nI (sL S)) tk be an va bd (daysF (sN S) (j + 1)) (sN S)) gX6_played_X6_putsBack rfl rfl rfl ⟨rfl, by decide, by decide, rfl⟩ ⟨Nat.le_of_ble_eq_true rfl, Nat.le_of_ble_eq_true rfl⟩ ⟨Nat.zero_le _, Nat.zero_le _⟩ rfl (by decide) (ci := 5) 0 rfl rfl rfl rfl rfl (Nat.le_of_ble_eq_true rfl) dX6_played_51 (fun _ => rfl) (fun zu6 zk6 => ?_)
          refine j_iload_n 54 cx 0 dX6_played_54 rfl ?_
          refine j_sipush 55 cx 400 dX6_played_55 (by decide) ?_
          refine j_icmp_le_T 58 cx 70 dX6_played_58 (by decide) (nI_le (b := 400) (by omega) (by omega)) ?_
          refine j_iload_n 70 cx 0 dX6_played_70 rfl ?_
          have ze : (sp_played (nI k) S) = (nI (j + 1), S) := by unfold sp_played orN; simp [isP_eq hI, zc1, hkc, zc2, ti_yes hT (decide_eq_true ((oI_lt (inv_daysF hI j (by have := hD; omega)).1 (by omega)).mp zc2)), show j + 1 ≤ 400 from by omega]
          exact fin ((oI (loud (daysF (sN S) j))), (sN S)) _ _ _ _ dX6_played_71 rfl (by rw [ze] <;> rfl) (by rw [ze] <;> rfl) trivial
        · skip
          refine j_aload_n 40 cx 2 dX6_played_40 rfl ?_
          refine j_callV_v 41 cx 0 [0, 1] [] (fun _ => wMO o am (sP S) (oI (loud (daysF (sN S) (j + 1)))) (nI (sL S)) tk be an va bd ++ ([((am 0), .inl (gI G, 51, .inl (mm (dayF (daysF (sN S) (j + 1))))))] ++ ([((am 3), .inl (gI G, 7, .inl (sF S)))] ++ [((am 2), .inl (gI G, 51, .inl (mm (sN S))))]))) (c_X6_goes (kl K) G o am (sP S) (oI (loud (daysF (sN S) j))) (nI (sL S)) tk be an va bd (daysF (sN S) (j + 1)) (inv_daysF hI (j + 1) (by have := hD; omega)).1) gX6_played_X6_goes rfl rfl rfl ⟨rfl, by decide, by decide, rfl⟩ ⟨Nat.le_of_ble_eq_true rfl, Nat.le_of_ble_eq_true rfl⟩ ⟨Nat.zero_le _, Nat.zero_le _⟩ rfl (by decide) (ci := 5) 0 rfl rfl rfl rfl rfl (Nat.le_of_ble_eq_true rfl) dX6_played_41 (fun _ => rfl) (fun zu7 zk7 => ?_)
          refine j_iinc 44 cx [(2, .int (nI ((j + 1) + 1))), (1, .int (nI k)), (0, .ref o)] 0 (nI ((j + 1) + 1)) dX6_played_44 rfl (iinc1 (j + 1)) (by decide) rfl ?_
          refine j_goto 47 cx 25 dX6_played_47 (by decide) ?_
          exact ih25 (j + 1) (by omega) (ti_no hT (decide_eq_false (mt (oI_lt (inv_daysF hI j (by have := hD; omega)).1 (by omega)).mpr zc2)))
    refine j_lv [0, 2, 1] rfl ?_
    exact L25 400 0 (by omega) (ti_start _ _ _)
  · skip
    refine j_aload_n 8 cx 0 dX6_played_8 rfl ?_
    refine j_ldc 9 cx (v := -1000000001) (List.mem_of_getElem? (i := 1) rfl) dX6_played_9 ?_
    refine j_callV_i 11 cx 1 [0, 2] [.int (fcode 0)] (fun _ => wMO o am (sP S) la (nI (sL S)) tk be an va bd ++ ([((am 0), .inl (gI G, 51, .inl (mm (sN S))))] ++ ([((am 3), .inl (gI G, 7, .inl (upd (sF S) 0 ((sF S) 0 + 1))))] ++ [((am 2), .inl (gI G, 51, .inl (mm ω)))]))) (c_X6_finds (kl K) G o am (sP S) la (nI (sL S)) tk be an va bd (sF S) 0 (by decide)) gX6_played_X6_finds rfl rfl rfl ⟨rfl, by decide, by decide, rfl⟩ ⟨Nat.le_of_ble_eq_true rfl, Nat.le_of_ble_eq_true rfl⟩ ⟨Nat.zero_le _, Nat.zero_le _⟩ rfl (by decide) (ci := 5) 0 rfl rfl rfl rfl rfl (Nat.le_of_ble_eq_true rfl) dX6_played_11 (fun _ => rfl) (fun zu8 zk8 => ?_)
    refine j_top (fcode 0) rfl ?_
    have ze : (sp_played p S) = bad S 0 := by unfold sp_played; simp [isP_eq hI, zc1]
    exact fin (la, ω) _ _ _ _ dX6_played_14 rfl (by rw [ze] <;> rfl) (by rw [ze] <;> rfl) trivial
set_option maxRecDepth 100000 in
set_option maxHeartbeats 4000000 in
theorem c_X6_wipe (l : Launch) (G : pG) (o : Nat) (am : Nat → Nat) (S : St) (la tk be an va : Int32) (bd : Bool) (ω : Nu) (hI : Inv (sN S)) (hD : dyN (sN S) ≤ 9999)  : KI l G yX6_wipe wsX6_wipe ({ frames := 0, cells := 0, slots := 0, locals := 0 } : Room) [.ref o] (wMO o am (sP S) la (nI (sL S)) tk be an va bd) (S := Unit) (fun _ => True) (fun u => (sp_wipe S).1) (fun u => wMO o am (sP S) la (nI (sL (sp_wipe S).2)) tk be an va bd) := by
  refine ki_of [(0, .ref o)] (own := RX6) (cc := cX6_wipe) (nL := 2) (by decide +kernel) rfl rfl (Nat.le_of_ble_eq_true rfl) rfl (fun _ => rfl) (fun K cx fin => ?_)
  refine j_aload_n 0 cx 0 dX6_wipe_0 rfl ?_
  refine j_get 1 cx 0 7 (T := TX6) (v := .int (nI (sL S))) (fun _ h => List.mem_cons_of_mem _ (List.mem_append_right _ (h))) (List.mem_of_getElem? (i := 1) rfl) (ci := 5) rfl (by decide) rfl rfl rfl dX6_wipe_1 ?_
  refine j_istore_n 4 cx [(1, .int (nI (sL S))), (0, .ref o)] dX6_wipe_4 (by decide) rfl ?_
  refine j_aload_n 5 cx 1 dX6_wipe_5 rfl ?_
  refine j_iconst 6 cx 0 dX6_wipe_6 (by decide) ?_
  refine j_put 7 cx 0 7 (wMO o am (sP S) la 0 tk be an va bd) (T := TX6) (ty0 := tyX6) (fun _ h => List.mem_cons_of_mem _ (List.mem_append_right _ (h))) (List.mem_of_getElem? (i := 1) rfl) (ci := 5) rfl (by decide) rfl tyX6_ok nmX6 rfl rfl rfl rfl (Nat.le_of_ble_eq_true rfl) rfl dX6_wipe_7 ?_
  refine j_iload_n 10 cx 0 dX6_wipe_10 rfl ?_
  have ze : (sp_wipe S) = (nI (sL S), stT S (sT S) 0) := by unfold sp_wipe; simp [bI_t, bI_f]
  exact fin () _ _ _ _ dX6_wipe_11 rfl (by rw [ze] <;> rfl) (by rw [ze] <;> rfl) trivial
set_option maxRecDepth 100000 in
set_option maxHeartbeats 4000000 in
theorem c_X6_image (l : Launch) (G : pG) (o : Nat) (am : Nat → Nat) (S : St) (la tk be an va : Int32) (bd : Bool) (ω : Nu) (hI : Inv (sN S)) (hD : dyN (sN S) ≤ 9999)  : KI l G yX6_image wsX6_image ({ frames := 1, cells := 0, slots := 0, locals := 22 } : Room) [.ref o] (wMO o am (sP S) la (nI (sL S)) tk be an va bd ++ ([((am 0), .inl (gI G, 51, .inl (mm (sN S))))] ++ [((am 1), .inl (gI G, 51, .inl (mm (sK S))))])) (S := Unit) (fun _ => True) (fun u => (sp_image S).1) (fun u => wMO o am (sP (sp_image S).2) la (nI (sL S)) tk be an va bd ++ ([((am 0), .inl (gI G, 51, .inl (mm (sN S))))] ++ [((am 1), .inl (gI G, 51, .inl (mm (sK (sp_image S).2))))])) := by
  refine ki_of [(0, .ref o)] (own := RX6) (cc := cX6_image) (nL := 1) (by decide +kernel) rfl rfl (Nat.le_of_ble_eq_true rfl) rfl (fun _ => rfl) (fun K cx fin => ?_)
  refine j_aload_n 0 cx 0 dX6_image_0 rfl ?_
  refine j_get 1 cx 0 0 (T := TX6) (v := .ref ((am 0))) (fun _ h => List.mem_cons_of_mem _ (List.mem_append_right _ (h))) (List.mem_of_getElem? (i := 1) rfl) (ci := 5) rfl (by decide) rfl rfl rfl dX6_image_1 ?_
  refine j_aload_n 4 cx 0 dX6_image_4 rfl ?_
  refine j_get 5 cx 0 1 (T := TX6) (v := .ref ((am 1))) (fun _ h => List.mem_cons_of_mem _ (List.mem_append_right _ (h))) (List.mem_of_getElem? (i := 2) rfl) (ci := 5) rfl (by decide) rfl rfl rfl dX6_image_5 ?_
  refine j_callS_v 8 cx 2 [1, 2] [.ref ((am 0)), .ref ((am 1))] (fun _ => wMO o am (sP S) la (nI (sL S)) tk be an va bd ++ ([((am 0), .inl (gI G, 51, .inl (mm (sN S))))] ++ [((am 1), .inl (gI G, 51, .inl (mm (sN S))))])) (c_X6_copyAll (kl K) G (am 0) (am 1) (mm (sN S)) (mm (sK S))) gX6_image_X6_copyAll rfl rfl rfl ⟨by decide, by decide, rfl⟩ ⟨Nat.le_of_ble_eq_true rfl, Nat.le_of_ble_eq_true rfl⟩ ⟨Nat.zero_le _, Nat.zero_le _⟩ rfl (by decide) rfl rfl (Nat.le_of_ble_eq_true rfl) dX6_image_8 (fun _ => rfl) (fun zu1 zk1 => ?_)
  refine j_aload_n 11 cx 0 dX6_image_11 rfl ?_
  refine j_iconst 12 cx 1 dX6_image_12 (by decide) ?_
  refine j_put 13 cx 0 3 (wMO o am true la (nI (sL S)) tk be an va bd ++ ([((am 0), .inl (gI G, 51, .inl (mm (sN S))))] ++ [((am 1), .inl (gI G, 51, .inl (mm (sN S))))])) (T := TX6) (ty0 := tyX6) (fun _ h => List.mem_cons_of_mem _ (List.mem_append_right _ (h))) (List.mem_of_getElem? (i := 3) rfl) (ci := 5) rfl (by decide) rfl tyX6_ok nmX6 rfl rfl rfl rfl (Nat.le_of_ble_eq_true rfl) rfl dX6_image_13 ?_
  refine j_iconst 16 cx 1 dX6_image_16 (by decide) ?_
  have ze : (sp_image S) = (1, stK S (sN S) true) := by unfold sp_image; simp [bI_t, bI_f]
  exact fin () _ _ _ _ dX6_image_17 rfl (by rw [ze] <;> rfl) (by rw [ze] <;> rfl) trivial
set_option maxRecDepth 100000 in
set_option maxHeartbeats 4000000 in
theorem c_X6_undo (l : Launch) (G : pG) (o : Nat) (am : Nat → Nat) (S : St) (la tk be an va : Int32) (bd : Bool) (ω : Nu) (hI : Inv (sN S)) (hD : dyN (sN S) ≤ 9999)  : KI l G yX6_undo wsX6_undo ({ frames := 1, cells := 0, slots := 0, locals := 22 } : Room) [.ref o] (wMO o am (sP S) la (nI (sL S)) tk be an va bd ++ ([((am 0), .inl (gI G, 51, .inl (mm (sN S))))] ++ ([((am 1), .inl (gI G, 51, .inl (mm (sK S))))] ++ [((am 3), .inl (gI G, 7, .inl (sF S)))]))) (S := Unit) (fun _ => True) (fun u => (sp_undo S).1) (fun u => wMO o am (sP S) la (nI (sL S)) tk be an va bd ++ ([((am 0), .inl (gI G, 51, .inl (mm (sN (sp_undo S).2))))] ++ ([((am 1), .inl (gI G, 51, .inl (mm (sK S))))] ++ [((am 3), .inl (gI G, 7, .inl (sF (sp_undo S).2)))]))) := by
  refine ki_of [(0, .ref o)] (own := RX6) (cc := cX6_undo) (nL := 1) (by decide +kernel) rfl rfl (Nat.le_of_ble_eq_true rfl) rfl (fun _ => rfl) (fun K cx fin => ?_)
  refine j_aload_n 0 cx 0 dX6_undo_0 rfl ?_
  refine j_get 1 cx 0 3 (T := TX6) (v := .int (bI ((sP S)))) (fun _ h => List.mem_cons_of_mem _ (List.mem_append_right _ (h))) (List.mem_of_getElem? (i := 1) rfl) (ci := 5) rfl (by decide) rfl rfl rfl dX6_undo_1 ?_
  refine j_ifB_ne 4 cx 14 dX6_undo_4 (by decide) (fun zc1 => ?_) (fun zc1 => ?_)
  · skip
    refine j_aload_n 14 cx 0 dX6_undo_14 rfl ?_
    refine j_get 15 cx 0 1 (T := TX6) (v := .ref ((am 1))) (fun _ h => List.mem_cons_of_mem _ (List.mem_append_right _ (h))) (List.mem_of_getElem? (i := 3) rfl) (ci := 5) rfl (by decide) rfl rfl rfl dX6_undo_15 ?_
    refine j_aload_n 18 cx 0 dX6_undo_18 rfl ?_
    refine j_get 19 cx 0 0 (T := TX6) (v := .ref ((am 0))) (fun _ h => List.mem_cons_of_mem _ (List.mem_append_right _ (h))) (List.mem_of_getElem? (i := 4) rfl) (ci := 5) rfl (by decide) rfl rfl rfl dX6_undo_19 ?_
    refine j_callS_v 22 cx 2 [2, 1] [.ref ((am 1)), .ref ((am 0))] (fun _ => wMO o am (sP S) la (nI (sL S)) tk be an va bd ++ ([((am 0), .inl (gI G, 51, .inl (mm (sK S))))] ++ ([((am 1), .inl (gI G, 51, .inl (mm (sK S))))] ++ [((am 3), .inl (gI G, 7, .inl (sF S)))]))) (c_X6_copyAll (kl K) G (am 1) (am 0) (mm (sK S)) (mm (sN S))) gX6_undo_X6_copyAll rfl rfl rfl ⟨by decide, by decide, rfl⟩ ⟨Nat.le_of_ble_eq_true rfl, Nat.le_of_ble_eq_true rfl⟩ ⟨Nat.zero_le _, Nat.zero_le _⟩ rfl (by decide) rfl rfl (Nat.le_of_ble_eq_true rfl) dX6_undo_22 (fun _ => rfl) (fun zu1 zk1 => ?_)
    refine j_aload_n 25 cx 0 dX6_undo_25 rfl ?_
    refine j_get 26 cx 0 0 (T := TX6) (v := .ref ((am 0))) (fun _ h => List.mem_cons_of_mem _ (List.mem_append_right _ (h))) (List.mem_of_getElem? (i := 4) rfl) (ci := 5) rfl (by decide) rfl rfl rfl dX6_undo_26 ?_
    refine j_iconst 29 cx 3 dX6_undo_29 (by decide) ?_
    refine j_iald 30 cx 1 3 rfl rfl (by omega) (by decide) dX6_undo_30 ?_
    refine j_top ((sK S) 0 3) rfl ?_
    have ze : (sp_undo S) = ((sK S) 0 3, stN S (sK S)) := by unfold sp_undo; simp [bI_t, bI_f, zc1]
    exact fin () _ _ _ _ dX6_undo_31 rfl (by rw [ze] <;> rfl) (by rw [ze] <;> rfl) trivial
  · skip
    refine j_aload_n 7 cx 0 dX6_undo_7 rfl ?_
    refine j_ldc 8 cx (v := -1000000004) (List.mem_of_getElem? (i := 2) rfl) dX6_undo_8 ?_
    refine j_callV_i 10 cx 1 [0, 3] [.int (fcode 3)] (fun _ => wMO o am (sP S) la (nI (sL S)) tk be an va bd ++ ([((am 0), .inl (gI G, 51, .inl (mm (sN S))))] ++ ([((am 1), .inl (gI G, 51, .inl (mm (sK S))))] ++ [((am 3), .inl (gI G, 7, .inl (upd (sF S) 3 ((sF S) 3 + 1))))]))) (c_X6_finds (kl K) G o am (sP S) la (nI (sL S)) tk be an va bd (sF S) 3 (by decide)) gX6_undo_X6_finds rfl rfl rfl ⟨rfl, by decide, by decide, rfl⟩ ⟨Nat.le_of_ble_eq_true rfl, Nat.le_of_ble_eq_true rfl⟩ ⟨Nat.zero_le _, Nat.zero_le _⟩ rfl (by decide) (ci := 5) 0 rfl rfl rfl rfl rfl (Nat.le_of_ble_eq_true rfl) dX6_undo_10 (fun _ => rfl) (fun zu2 zk2 => ?_)
    refine j_top (fcode 3) rfl ?_
    have ze : (sp_undo S) = bad S 3 := by unfold sp_undo; simp [bI_t, bI_f, zc1]
    exact fin () _ _ _ _ dX6_undo_13 rfl (by rw [ze] <;> rfl) (by rw [ze] <;> rfl) trivial
set_option maxRecDepth 100000 in
set_option maxHeartbeats 4000000 in
theorem c_X6_tear (l : Launch) (G : pG) (o : Nat) (am : Nat → Nat) (S : St) (la tk be an va : Int32) (bd : Bool) (ω : Nu) (hI : Inv (sN S)) (hD : dyN (sN S) ≤ 9999)  : KI l G yX6_tear wsX6_tear ({ frames := 0, cells := 0, slots := 0, locals := 0 } : Room) [.ref o] (wMO o am (sP S) la (nI (sL S)) tk be an va bd) (S := Unit) (fun _ => True) (fun u => (sp_tear S).1) (fun u => wMO o am (sP (sp_tear S).2) la (nI (sL S)) tk be an va bd) := by
  refine ki_of [(0, .ref o)] (own := RX6) (cc := cX6_tear) (nL := 2) (by decide +kernel) rfl rfl (Nat.le_of_ble_eq_true rfl) rfl (fun _ => rfl) (fun K cx fin => ?_)
  refine j_aload_n 0 cx 0 dX6_tear_0 rfl ?_
  refine j_get 1 cx 0 3 (T := TX6) (v := .int (bI ((sP S)))) (fun _ h => List.mem_cons_of_mem _ (List.mem_append_right _ (h))) (List.mem_of_getElem? (i := 1) rfl) (ci := 5) rfl (by decide) rfl rfl rfl dX6_tear_1 ?_
  refine j_ifB_eq 4 cx 11 dX6_tear_4 (by decide) (fun zc1 => ?_) (fun zc1 => ?_)
  · skip
    refine j_iconst 11 cx 0 dX6_tear_11 (by decide) ?_
    refine j_istore_n 12 cx [(1, .int 0), (0, .ref o)] dX6_tear_12 (by decide) rfl ?_
    refine j_aload_n 13 cx 1 dX6_tear_13 rfl ?_
    refine j_iconst 14 cx 0 dX6_tear_14 (by decide) ?_
    refine j_put 15 cx 0 3 (wMO o am false la (nI (sL S)) tk be an va bd) (T := TX6) (ty0 := tyX6) (fun _ h => List.mem_cons_of_mem _ (List.mem_append_right _ (h))) (List.mem_of_getElem? (i := 1) rfl) (ci := 5) rfl (by decide) rfl tyX6_ok nmX6 rfl rfl rfl rfl (Nat.le_of_ble_eq_true rfl) rfl dX6_tear_15 ?_
    refine j_iload_n 18 cx 0 dX6_tear_18 rfl ?_
    have ze : (sp_tear S) = (0, stK S (sK S) false) := by unfold sp_tear; simp [bI_t, bI_f, zc1]
    exact fin () _ _ _ _ dX6_tear_19 rfl (by rw [ze] <;> rfl) (by rw [ze] <;> rfl) trivial
  · skip
    refine j_iconst 7 cx 1 dX6_tear_7 (by decide) ?_
    refine j_goto 8 cx 12 dX6_tear_8 (by decide) ?_
    refine j_istore_n 12 cx [(1, .int 1), (0, .ref o)] dX6_tear_12 (by decide) rfl ?_
    refine j_aload_n 13 cx 1 dX6_tear_13 rfl ?_
    refine j_iconst 14 cx 0 dX6_tear_14 (by decide) ?_
    refine j_put 15 cx 0 3 (wMO o am false la (nI (sL S)) tk be an va bd) (T := TX6) (ty0 := tyX6) (fun _ h => List.mem_cons_of_mem _ (List.mem_append_right _ (h))) (List.mem_of_getElem? (i := 1) rfl) (ci := 5) rfl (by decide) rfl tyX6_ok nmX6 rfl rfl rfl rfl (Nat.le_of_ble_eq_true rfl) rfl dX6_tear_15 ?_
    refine j_iload_n 18 cx 0 dX6_tear_18 rfl ?_
    have ze : (sp_tear S) = (1, stK S (sK S) false) := by unfold sp_tear; simp [bI_t, bI_f, zc1]
    exact fin () _ _ _ _ dX6_tear_19 rfl (by rw [ze] <;> rfl) (by rw [ze] <;> rfl) trivial
set_option maxRecDepth 100000 in
set_option maxHeartbeats 4000000 in
theorem c_X6_holidays (l : Launch) (G : pG) (o : Nat) (am : Nat → Nat) (ik : Bool) (la tn tk be an va : Int32) (bd : Bool) (σ : Nu)  : KI l G yX6_holidays wsX6_holidays ({ frames := 0, cells := 0, slots := 0, locals := 0 } : Room) [.ref o] (wMO o am ik la tn tk be an va bd ++ [((am 0), .inl (gI G, 51, .inl (mm σ)))]) (S := Unit) (fun _ => True) (fun u => sumF (σ 1) 7) (fun u => wMO o am ik la tn tk be an va bd ++ [((am 0), .inl (gI G, 51, .inl (mm σ)))]) := by
  refine ki_of [(0, .ref o)] (own := RX6) (cc := cX6_holidays) (nL := 3) (by decide +kernel) rfl rfl (Nat.le_of_ble_eq_true rfl) rfl (fun _ => rfl) (fun K cx fin => ?_)
  refine j_iconst 0 cx 0 dX6_holidays_0 (by decide) ?_
  refine j_istore_n 1 cx [(1, .int 0), (0, .ref o)] dX6_holidays_1 (by decide) rfl ?_
  refine j_iconst 2 cx 0 dX6_holidays_2 (by decide) ?_
  refine j_istore_n 3 cx [(2, .int 0), (1, .int 0), (0, .ref o)] dX6_holidays_3 (by decide) rfl ?_
  have L4 : ∀ d : Nat, ∀ (k : Nat), (k + d = 7) → JJ G K 0 0 (wMO o am ik la tn tk be an va bd ++ [((am 0), .inl (gI G, 51, .inl (mm σ)))]) [(2, .int (nI k)), (1, .int (sumF (σ 1) k)), (0, .ref o)] 4 [] := by
    intro d
    induction d with
    | zero =>
      intro k hk
      refine j_iload_n 4 cx 0 dX6_holidays_4 rfl ?_
      refine j_bipush 5 cx 7 dX6_holidays_5 (by decide) ?_
      refine j_icmp_ge_T 7 cx 27 dX6_holidays_7 (by decide) (nI_le (a := 7) (by omega) (by omega)) ?_
      refine j_iload_n 27 cx 1 dX6_holidays_27 rfl ?_
      exact fin () _ _ _ _ dX6_holidays_28 rfl (by rw [show k = 7 from by omega]) rfl trivial
    | succ d ih4 =>
      intro k hk
      refine j_iload_n 4 cx 0 dX6_holidays_4 rfl ?_
      refine j_bipush 5 cx 7 dX6_holidays_5 (by decide) ?_
      refine j_icmp_ge_F 7 cx 27 dX6_holidays_7 (by decide) (nI_ge (b := 7) (by omega) (by omega)) ?_
      refine j_iload_n 10 cx 1 dX6_holidays_10 rfl ?_
      refine j_aload_n 11 cx 2 dX6_holidays_11 rfl ?_
      refine j_get 12 cx 0 0 (T := TX6) (v := .ref ((am 0))) (fun _ h => List.mem_cons_of_mem _ (List.mem_append_right _ (h))) (List.mem_of_getElem? (i := 1) rfl) (ci := 5) rfl (by decide) rfl rfl rfl dX6_holidays_12 ?_
      refine j_iconst 15 cx 4 dX6_holidays_15 (by decide) ?_
      refine j_iload_n 16 cx 0 dX6_holidays_16 rfl ?_
      refine j_iadd 17 cx dX6_holidays_17 ?_
      refine j_top (nI (4 + k)) (nI_add 4 k) ?_
      refine j_iald 18 cx 1 (4 + k) rfl rfl (by omega) (by decide) dX6_holidays_18 ?_
      refine j_top (σ 1 k) (mm_fr _ (by omega)) ?_
      refine j_iadd 19 cx dX6_holidays_19 ?_
      refine j_istore_n 20 cx [(1, .int ((sumF (σ 1) k) + (σ 1 k))), (2, .int (nI k)), (0, .ref o)] dX6_holidays_20 (by decide) rfl ?_
      refine j_iinc 21 cx [(2, .int (nI (k + 1))), (1, .int ((sumF (σ 1) k) + (σ 1 k))), (0, .ref o)] 1 (nI (k + 1)) dX6_holidays_21 rfl (iinc1 k) (by decide) rfl ?_
      refine j_goto 24 cx 4 dX6_holidays_24 (by decide) ?_
      exact ih4 (k + 1) (by omega)
  exact L4 (7) 0 (by omega)
set_option maxRecDepth 100000 in
set_option maxHeartbeats 4000000 in
theorem c_X6_allPlayed (l : Launch) (G : pG) (o : Nat) (am : Nat → Nat) (ik : Bool) (la tn tk be an va : Int32) (bd : Bool) (σ : Nu) (hI : Inv σ) : KI l G yX6_allPlayed wsX6_allPlayed ({ frames := 1, cells := 0, slots := 0, locals := 22 } : Room) [.ref o] (wMO o am ik la tn tk be an va bd ++ [((am 0), .inl (gI G, 51, .inl (mm σ)))]) (S := Unit) (fun _ => True) (fun u => sumF (σ 4) (szN σ)) (fun u => wMO o am ik la tn tk be an va bd ++ [((am 0), .inl (gI G, 51, .inl (mm σ)))]) := by
  have h8 := hI.sz8
  refine ki_of [(0, .ref o)] (own := RX6) (cc := cX6_allPlayed) (nL := 3) (by decide +kernel) rfl rfl (Nat.le_of_ble_eq_true rfl) rfl (fun _ => rfl) (fun K cx fin => ?_)
  refine j_iconst 0 cx 0 dX6_allPlayed_0 (by decide) ?_
  refine j_istore_n 1 cx [(1, .int 0), (0, .ref o)] dX6_allPlayed_1 (by decide) rfl ?_
  refine j_iconst 2 cx 0 dX6_allPlayed_2 (by decide) ?_
  refine j_istore_n 3 cx [(2, .int 0), (1, .int 0), (0, .ref o)] dX6_allPlayed_3 (by decide) rfl ?_
  have L4 : ∀ d : Nat, ∀ (k : Nat), (k + d = szN σ) → JJ G K 0 0 (wMO o am ik la tn tk be an va bd ++ [((am 0), .inl (gI G, 51, .inl (mm σ)))]) [(2, .int (nI k)), (1, .int (sumF (σ 4) k)), (0, .ref o)] 4 [] := by
    intro d
    induction d with
    | zero =>
      intro k hk
      refine j_iload_n 4 cx 0 dX6_allPlayed_4 rfl ?_
      refine j_aload_n 5 cx 2 dX6_allPlayed_5 rfl ?_
      refine j_get 6 cx 0 0 (T := TX6) (v := .ref ((am 0))) (fun _ h => List.mem_cons_of_mem _ (List.mem_append_right _ (h))) (List.mem_of_getElem? (i := 1) rfl) (ci := 5) rfl (by decide) rfl rfl rfl dX6_allPlayed_6 ?_
      refine j_iconst 9 cx 3 dX6_allPlayed_9 (by decide) ?_
      refine j_iald 10 cx 1 3 rfl rfl (by omega) (by decide) dX6_allPlayed_10 ?_
      refine j_top (σ 0 3) rfl ?_
      refine j_top (nI (szN σ)) hI.sz ?_
      refine j_icmp_ge_T 11 cx 29 dX6_allPlayed_11 (by decide) (nI_le  (by omega) (by omega)) ?_
      refine j_iload_n 29 cx 1 dX6_allPlayed_29 rfl ?_
      exact fin () _ _ _ _ dX6_allPlayed_30 rfl (by rw [show k = szN σ from by omega]) rfl trivial
    | succ d ih4 =>
      intro k hk
      refine j_iload_n 4 cx 0 dX6_allPlayed_4 rfl ?_
      refine j_aload_n 5 cx 2 dX6_allPlayed_5 rfl ?_
      refine j_get 6 cx 0 0 (T := TX6) (v := .ref ((am 0))) (fun _ h => List.mem_cons_of_mem _ (List.mem_append_right _ (h))) (List.mem_of_getElem? (i := 1) rfl) (ci := 5) rfl (by decide) rfl rfl rfl dX6_allPlayed_6 ?_
      refine j_iconst 9 cx 3 dX6_allPlayed_9 (by decide) ?_
      refine j_iald 10 cx 1 3 rfl rfl (by omega) (by decide) dX6_allPlayed_10 ?_
      refine j_top (σ 0 3) rfl ?_
      refine j_top (nI (szN σ)) hI.sz ?_
      refine j_icmp_ge_F 11 cx 29 dX6_allPlayed_11 (by decide) (nI_ge  (by omega) (by omega)) ?_
      refine j_iload_n 14 cx 1 dX6_allPlayed_14 rfl ?_
      refine j_aload_n 15 cx 2 dX6_allPlayed_15 rfl ?_
      refine j_iload_n 16 cx 0 dX6_allPlayed_16 rfl ?_
      refine j_iconst 17 cx 2 dX6_allPlayed_17 (by decide) ?_
      refine j_callV_i 18 cx 2 [0, 1] [.int (nI k), .int 2] (fun _ => wMO o am ik la tn tk be an va bd ++ [((am 0), .inl (gI G, 51, .inl (mm σ)))]) (c_X6_it (kl K) G o am ik la tn tk be an va bd σ k 2 (by omega) (by omega) ) gX6_allPlayed_X6_it rfl rfl rfl ⟨rfl, by decide, by decide, rfl⟩ ⟨Nat.le_of_ble_eq_true rfl, Nat.le_of_ble_eq_true rfl⟩ ⟨Nat.zero_le _, Nat.zero_le _⟩ rfl (by decide) (ci := 5) 0 rfl rfl rfl rfl rfl (Nat.le_of_ble_eq_true rfl) dX6_allPlayed_18 (fun _ => rfl) (fun zu1 zk1 => ?_)
      refine j_top (σ 4 k) rfl ?_
      refine j_iadd 21 cx dX6_allPlayed_21 ?_
      refine j_istore_n 22 cx [(1, .int ((sumF (σ 4) k) + (σ 4 k))), (2, .int (nI k)), (0, .ref o)] dX6_allPlayed_22 (by decide) rfl ?_
      refine j_iinc 23 cx [(2, .int (nI (k + 1))), (1, .int ((sumF (σ 4) k) + (σ 4 k))), (0, .ref o)] 1 (nI (k + 1)) dX6_allPlayed_23 rfl (iinc1 k) (by decide) rfl ?_
      refine j_goto 26 cx 4 dX6_allPlayed_26 (by decide) ?_
      exact ih4 (k + 1) (by omega)
  exact L4 (szN σ) 0 (by omega)
set_option maxRecDepth 100000 in
set_option maxHeartbeats 4000000 in
theorem c_X6_count (l : Launch) (G : pG) (o : Nat) (am : Nat → Nat) (S : St) (la tk be an va : Int32) (bd : Bool) (ω : Nu) (hI : Inv (sN S)) (hD : dyN (sN S) ≤ 9999) (w : Int32) : KI l G yX6_count wsX6_count ({ frames := 2, cells := 0, slots := 0, locals := 44 } : Room) [.ref o, .int w] (wMO o am (sP S) la (nI (sL S)) tk be an va bd ++ ([((am 0), .inl (gI G, 51, .inl (mm (sN S))))] ++ [((am 3), .inl (gI G, 7, .inl (sF S)))])) (S := Unit) (fun _ => True) (fun u => (sp_count w S).1) (fun u => wMO o am (sP S) la (nI (sL S)) tk be an va bd ++ ([((am 0), .inl (gI G, 51, .inl (mm (sN (sp_count w S).2))))] ++ [((am 3), .inl (gI G, 7, .inl (sF (sp_count w S).2)))])) := by
  refine ki_of [(0, .ref o), (1, .int w)] (own := RX6) (cc := cX6_count) (nL := 2) (by decide +kernel) rfl rfl (Nat.le_of_ble_eq_true rfl) rfl (fun _ => rfl) (fun K cx fin => ?_)
  refine j_iload_n 0 cx 1 dX6_count_0 rfl ?_
  by_cases zc1 : w = 0
  · skip
    refine j_tableIn 1 cx 32 (0) dX6_count_1 zc1 (by decide) (by decide) (by decide) rfl (by decide) ?_
    refine j_aload_n 32 cx 0 dX6_count_32 rfl ?_
    refine j_get 33 cx 0 0 (T := TX6) (v := .ref ((am 0))) (fun _ h => List.mem_cons_of_mem _ (List.mem_append_right _ (h))) (List.mem_of_getElem? (i := 1) rfl) (ci := 5) rfl (by decide) rfl rfl rfl dX6_count_33 ?_
    refine j_iconst 36 cx 3 dX6_count_36 (by decide) ?_
    refine j_iald 37 cx 1 3 rfl rfl (by omega) (by decide) dX6_count_37 ?_
    refine j_top ((sN S) 0 3) rfl ?_
    refine j_top (nI (szN (sN S))) hI.sz ?_
    have ze : (sp_count w S) = (nI (szN (sN S)), S) := by unfold sp_count; simp [hI.sz, bI_t, bI_f, zc1]
    exact fin () _ _ _ _ dX6_count_38 rfl (by rw [ze] <;> rfl) (by rw [ze] <;> rfl) trivial
  · skip
    by_cases zc2 : w = 1
    · skip
      refine j_tableIn 1 cx 39 (1) dX6_count_1 zc2 (by decide) (by decide) (by decide) rfl (by decide) ?_
      refine j_aload_n 39 cx 0 dX6_count_39 rfl ?_
      refine j_get 40 cx 0 7 (T := TX6) (v := .int (nI (sL S))) (fun _ h => List.mem_cons_of_mem _ (List.mem_append_right _ (h))) (List.mem_of_getElem? (i := 2) rfl) (ci := 5) rfl (by decide) rfl rfl rfl dX6_count_40 ?_
      have ze : (sp_count w S) = (nI (sL S), S) := by unfold sp_count; simp [hI.sz, bI_t, bI_f, zc1, zc2]
      exact fin () _ _ _ _ dX6_count_43 rfl (by rw [ze] <;> rfl) (by rw [ze] <;> rfl) trivial
    · skip
      by_cases zc3 : w = 2
      · skip
        refine j_tableIn 1 cx 44 (2) dX6_count_1 zc3 (by decide) (by decide) (by decide) rfl (by decide) ?_
        refine j_aload_n 44 cx 0 dX6_count_44 rfl ?_
        refine j_callV_i 45 cx 0 [0, 1] [] (fun _ => wMO o am (sP S) la (nI (sL S)) tk be an va bd ++ ([((am 0), .inl (gI G, 51, .inl (mm (sN S))))] ++ [((am 3), .inl (gI G, 7, .inl (sF S)))])) (c_X6_holidays (kl K) G o am (sP S) la (nI (sL S)) tk be an va bd (sN S)   ) gX6_count_X6_holidays rfl rfl rfl ⟨rfl, by decide, by decide, rfl⟩ ⟨Nat.le_of_ble_eq_true rfl, Nat.le_of_ble_eq_true rfl⟩ ⟨Nat.zero_le _, Nat.zero_le _⟩ rfl (by decide) (ci := 5) 0 rfl rfl rfl rfl rfl (Nat.le_of_ble_eq_true rfl) dX6_count_45 (fun _ => rfl) (fun zu1 zk1 => ?_)
        refine j_top (sumF ((sN S) 1) 7) rfl ?_
        have ze : (sp_count w S) = (sumF ((sN S) 1) 7, S) := by unfold sp_count; simp [hI.sz, bI_t, bI_f, zc1, zc2, zc3]
        exact fin () _ _ _ _ dX6_count_48 rfl (by rw [ze] <;> rfl) (by rw [ze] <;> rfl) trivial
      · skip
        by_cases zc4 : w = 3
        · skip
          refine j_tableIn 1 cx 49 (3) dX6_count_1 zc4 (by decide) (by decide) (by decide) rfl (by decide) ?_
          refine j_aload_n 49 cx 0 dX6_count_49 rfl ?_
          refine j_callV_i 50 cx 0 [0, 1] [] (fun _ => wMO o am (sP S) la (nI (sL S)) tk be an va bd ++ ([((am 0), .inl (gI G, 51, .inl (mm (sN S))))] ++ [((am 3), .inl (gI G, 7, .inl (sF S)))])) (c_X6_allPlayed (kl K) G o am (sP S) la (nI (sL S)) tk be an va bd (sN S)  hI ) gX6_count_X6_allPlayed rfl rfl rfl ⟨rfl, by decide, by decide, rfl⟩ ⟨Nat.le_of_ble_eq_true rfl, Nat.le_of_ble_eq_true rfl⟩ ⟨Nat.zero_le _, Nat.zero_le _⟩ rfl (by decide) (ci := 5) 0 rfl rfl rfl rfl rfl (Nat.le_of_ble_eq_true rfl) dX6_count_50 (fun _ => rfl) (fun zu2 zk2 => ?_)
          refine j_top (sumF ((sN S) 4) (szN (sN S))) rfl ?_
          have ze : (sp_count w S) = (sumF ((sN S) 4) (szN (sN S)), S) := by unfold sp_count; simp [hI.sz, bI_t, bI_f, zc1, zc2, zc3, zc4]
          exact fin () _ _ _ _ dX6_count_53 rfl (by rw [ze] <;> rfl) (by rw [ze] <;> rfl) trivial
        · skip
          refine j_tableOut 1 cx 54 dX6_count_1 (tb_out (fun z h1 h2 => by
              have hz : z = 0 ∨ z = 1 ∨ z = 2 ∨ z = 3 := by omega
              rcases hz with rfl | rfl | rfl | rfl
              · exact ne_ti zc1 (by decide)
              · exact ne_ti zc2 (by decide)
              · exact ne_ti zc3 (by decide)
              · exact ne_ti zc4 (by decide))) (by decide) ?_
          refine j_aload_n 54 cx 0 dX6_count_54 rfl ?_
          refine j_ldc 55 cx (v := -1000000001) (List.mem_of_getElem? (i := 3) rfl) dX6_count_55 ?_
          refine j_callV_i 57 cx 1 [0, 2] [.int (fcode 0)] (fun _ => wMO o am (sP S) la (nI (sL S)) tk be an va bd ++ ([((am 0), .inl (gI G, 51, .inl (mm (sN S))))] ++ [((am 3), .inl (gI G, 7, .inl (upd (sF S) 0 ((sF S) 0 + 1))))])) (c_X6_finds (kl K) G o am (sP S) la (nI (sL S)) tk be an va bd (sF S) 0 (by decide)) gX6_count_X6_finds rfl rfl rfl ⟨rfl, by decide, by decide, rfl⟩ ⟨Nat.le_of_ble_eq_true rfl, Nat.le_of_ble_eq_true rfl⟩ ⟨Nat.zero_le _, Nat.zero_le _⟩ rfl (by decide) (ci := 5) 0 rfl rfl rfl rfl rfl (Nat.le_of_ble_eq_true rfl) dX6_count_57 (fun _ => rfl) (fun zu3 zk3 => ?_)
          refine j_top (fcode 0) rfl ?_
          have ze : (sp_count w S) = bad S 0 := by unfold sp_count; simp [hI.sz, bI_t, bI_f, zc1, zc2, zc3, zc4]
          exact fin () _ _ _ _ dX6_count_60 rfl (by rw [ze] <;> rfl) (by rw [ze] <;> rfl) trivial
set_option maxRecDepth 100000 in
set_option maxHeartbeats 4000000 in
theorem c_X6_status (l : Launch) (G : pG) (o : Nat) (am : Nat → Nat) (S : St) (la tk be an va : Int32) (bd : Bool) (ω : Nu) (hI : Inv (sN S)) (hD : dyN (sN S) ≤ 9999) (w : Int32) : KI l G yX6_status wsX6_status ({ frames := 1, cells := 0, slots := 0, locals := 23 } : Room) [.ref o, .int w] (wMO o am (sP S) la (nI (sL S)) tk be an va bd ++ [((am 3), .inl (gI G, 7, .inl (sF S)))]) (S := Unit) (fun _ => True) (fun u => (sp_status w S).1) (fun u => wMO o am (sP S) la (nI (sL S)) tk be an va bd ++ [((am 3), .inl (gI G, 7, .inl (sF (sp_status w S).2)))]) := by
  refine ki_of [(0, .ref o), (1, .int w)] (own := RX6) (cc := cX6_status) (nL := 4) (by decide +kernel) rfl rfl (Nat.le_of_ble_eq_true rfl) rfl (fun _ => rfl) (fun K cx fin => ?_)
  refine j_iload_n 0 cx 1 dX6_status_0 rfl ?_
  refine j_i2l 1 cx dX6_status_1 ?_
  refine j_iconst 2 cx (-1) dX6_status_2 (by decide) ?_
  refine j_bipush 3 cx 6 dX6_status_3 (by decide) ?_
  refine j_callS_i 5 cx 3 [] [.long (w.toInt64), .int ((-1)), .int 6] (fun _ => wMO o am (sP S) la (nI (sL S)) tk be an va bd ++ [((am 3), .inl (gI G, 7, .inl (sF S)))]) (c_X6_in (kl K) G (w.toInt64) (-1) 6) gX6_status_X6_in rfl rfl rfl ⟨by decide, by decide, rfl⟩ ⟨Nat.le_of_ble_eq_true rfl, Nat.le_of_ble_eq_true rfl⟩ ⟨Nat.zero_le _, Nat.zero_le _⟩ rfl (by decide) rfl rfl (Nat.le_of_ble_eq_true rfl) dX6_status_5 (fun _ => rfl) (fun zu1 zk1 => ?_)
  refine j_top (bI (inL (w.toInt64) (-1) 6)) rfl ?_
  refine j_top (bI (inI w (-1) 6)) (congrArg bI (inL_i w (-1) 6)) ?_
  refine j_ifB_ne 8 cx 18 dX6_status_8 (by decide) (fun zc1 => ?_) (fun zc1 => ?_)
  · skip
    refine j_iconst 18 cx 0 dX6_status_18 (by decide) ?_
    refine j_istore_n 19 cx [(2, .int 0), (0, .ref o), (1, .int w)] dX6_status_19 (by decide) rfl ?_
    refine j_iconst 20 cx 0 dX6_status_20 (by decide) ?_
    refine j_istore_n 21 cx [(3, .int 0), (2, .int 0), (0, .ref o), (1, .int w)] dX6_status_21 (by decide) rfl ?_
    have L22 : ∀ d : Nat, ∀ (k : Nat), (k + d = 7) → JJ G K 0 0 (wMO o am (sP S) la (nI (sL S)) tk be an va bd ++ [((am 3), .inl (gI G, 7, .inl (sF S)))]) [(3, .int (nI k)), (2, .int (stA (sF S) w k)), (1, .int w), (0, .ref o)] 22 [] := by
      intro d
      induction d with
      | zero =>
        intro k hk
        refine j_iload_n 22 cx 0 dX6_status_22 rfl ?_
        refine j_bipush 23 cx 7 dX6_status_23 (by decide) ?_
        refine j_icmp_ge_T 25 cx 56 dX6_status_25 (by decide) (nI_le (a := 7) (by omega) (by omega)) ?_
        refine j_iload_n 56 cx 1 dX6_status_56 rfl ?_
        have ze : (sp_status w S) = (stA (sF S) w k, S) := by rw [show k = 7 from by omega, stA_all zc1]; unfold sp_status; rw [if_pos zc1]
        exact fin () _ _ _ _ dX6_status_57 rfl (by rw [ze] <;> rfl) (by rw [ze] <;> rfl) trivial
      | succ d ih22 =>
        intro k hk
        refine j_iload_n 22 cx 0 dX6_status_22 rfl ?_
        refine j_bipush 23 cx 7 dX6_status_23 (by decide) ?_
        refine j_icmp_ge_F 25 cx 56 dX6_status_25 (by decide) (nI_ge (b := 7) (by omega) (by omega)) ?_
        refine j_iload_n 28 cx 1 dX6_status_28 rfl ?_
        refine j_iload_n 29 cx 2 dX6_status_29 rfl ?_
        refine j_if_lt 30 cx 38 dX6_status_30 (by decide) (fun zc2 => ?_) (fun zc2 => ?_)
        · skip
          refine j_aload_n 38 cx 3 dX6_status_38 rfl ?_
          refine j_get 39 cx 0 4 (T := TX6) (v := .ref ((am 3))) (fun _ h => List.mem_cons_of_mem _ (List.mem_append_right _ (h))) (List.mem_of_getElem? (i := 2) rfl) (ci := 5) rfl (by decide) rfl rfl rfl dX6_status_39 ?_
          refine j_iload_n 42 cx 0 dX6_status_42 rfl ?_
          refine j_iald 43 cx 1 k rfl rfl (by omega) (by decide) dX6_status_43 ?_
          refine j_goto 44 cx 48 dX6_status_44 (by decide) ?_
          refine j_iadd 48 cx dX6_status_48 ?_
          refine j_istore_n 49 cx [(2, .int ((stA (sF S) w k) + ((sF S) k))), (3, .int (nI k)), (1, .int w), (0, .ref o)] dX6_status_49 (by decide) rfl ?_
          refine j_iinc 50 cx [(3, .int (nI (k + 1))), (2, .int ((stA (sF S) w k) + ((sF S) k))), (1, .int w), (0, .ref o)] 1 (nI (k + 1)) dX6_status_50 rfl (iinc1 k) (by decide) rfl ?_
          refine j_goto 53 cx 22 dX6_status_53 (by decide) ?_
          have h9 := ih22 (k + 1) (by omega)
          rw [stA_t (Or.inl zc2)] at h9
          exact h9
        · skip
          refine j_iload_n 33 cx 2 dX6_status_33 rfl ?_
          refine j_iload_n 34 cx 0 dX6_status_34 rfl ?_
          refine j_icmp_ne 35 cx 47 dX6_status_35 (by decide) (fun zc3 => ?_) (fun zc3 => ?_)
          · skip
            refine j_iconst 47 cx 0 dX6_status_47 (by decide) ?_
            refine j_iadd 48 cx dX6_status_48 ?_
            refine j_istore_n 49 cx [(2, .int ((stA (sF S) w k) + 0)), (3, .int (nI k)), (1, .int w), (0, .ref o)] dX6_status_49 (by decide) rfl ?_
            refine j_iinc 50 cx [(3, .int (nI (k + 1))), (2, .int ((stA (sF S) w k) + 0)), (1, .int w), (0, .ref o)] 1 (nI (k + 1)) dX6_status_50 rfl (iinc1 k) (by decide) rfl ?_
            refine j_goto 53 cx 22 dX6_status_53 (by decide) ?_
            have h9 := ih22 (k + 1) (by omega)
            rw [stA_f zc2 zc3] at h9
            exact h9
          · skip
            refine j_aload_n 38 cx 3 dX6_status_38 rfl ?_
            refine j_get 39 cx 0 4 (T := TX6) (v := .ref ((am 3))) (fun _ h => List.mem_cons_of_mem _ (List.mem_append_right _ (h))) (List.mem_of_getElem? (i := 2) rfl) (ci := 5) rfl (by decide) rfl rfl rfl dX6_status_39 ?_
            refine j_iload_n 42 cx 0 dX6_status_42 rfl ?_
            refine j_iald 43 cx 1 k rfl rfl (by omega) (by decide) dX6_status_43 ?_
            refine j_goto 44 cx 48 dX6_status_44 (by decide) ?_
            refine j_iadd 48 cx dX6_status_48 ?_
            refine j_istore_n 49 cx [(2, .int ((stA (sF S) w k) + ((sF S) k))), (3, .int (nI k)), (1, .int w), (0, .ref o)] dX6_status_49 (by decide) rfl ?_
            refine j_iinc 50 cx [(3, .int (nI (k + 1))), (2, .int ((stA (sF S) w k) + ((sF S) k))), (1, .int w), (0, .ref o)] 1 (nI (k + 1)) dX6_status_50 rfl (iinc1 k) (by decide) rfl ?_
            refine j_goto 53 cx 22 dX6_status_53 (by decide) ?_
            have h9 := ih22 (k + 1) (by omega)
            rw [stA_t (Or.inr zc3)] at h9
            exact h9
    refine j_lv [0, 1, 3, 2] rfl ?_
    exact L22 7 0 (by omega)
  · skip
    refine j_aload_n 11 cx 0 dX6_status_11 rfl ?_
    refine j_ldc 12 cx (v := -1000000001) (List.mem_of_getElem? (i := 1) rfl) dX6_status_12 ?_
    refine j_callV_i 14 cx 1 [0, 1] [.int (fcode 0)] (fun _ => wMO o am (sP S) la (nI (sL S)) tk be an va bd ++ [((am 3), .inl (gI G, 7, .inl (upd (sF S) 0 ((sF S) 0 + 1))))]) (c_X6_finds (kl K) G o am (sP S) la (nI (sL S)) tk be an va bd (sF S) 0 (by decide)) gX6_status_X6_finds rfl rfl rfl ⟨rfl, by decide, by decide, rfl⟩ ⟨Nat.le_of_ble_eq_true rfl, Nat.le_of_ble_eq_true rfl⟩ ⟨Nat.zero_le _, Nat.zero_le _⟩ rfl (by decide) (ci := 5) 0 rfl rfl rfl rfl rfl (Nat.le_of_ble_eq_true rfl) dX6_status_14 (fun _ => rfl) (fun zu2 zk2 => ?_)
    refine j_top (fcode 0) rfl ?_
    have ze : (sp_status w S) = bad S 0 := by unfold sp_status; simp [bI_t, bI_f, zc1]
    exact fin () _ _ _ _ dX6_status_17 rfl (by rw [ze] <;> rfl) (by rw [ze] <;> rfl) trivial
