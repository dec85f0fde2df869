set_option maxRecDepth 100000 in
set_option maxHeartbeats 4000000 in
theorem c_X6_weary (l : Launch) (G : pG) (o : Nat) (am : Nat → Nat) (S : St) (la tk be an va : Int32) (bd : Bool) (ω : Nu) (hI : Inv (sN S)) (hD : dyN (sN S) ≤ 9999) (v : Int32) : KI l G yX6_weary wsX6_weary ({ frames := 1, cells := 0, slots := 0, locals := 23 } : Room) [.ref o, .int v] (wMO o am (sP S) la (nI (sL S)) tk be an va bd ++ ([((am 0), .inl (gI G, 51, .inl (mm (sN S))))] ++ [((am 3), .inl (gI G, 7, .inl (sF S)))])) (S := Unit) (fun _ => True) (fun u => (sp_weary v S).1) (fun u => wMO o am (sP S) la (nI (sL S)) tk be an va bd ++ ([((am 0), .inl (gI G, 51, .inl (mm (sN (sp_weary v S).2))))] ++ [((am 3), .inl (gI G, 7, .inl (sF (sp_weary v S).2)))])) := by
  refine ki_of [(0, .ref o), (1, .int v)] (own := RX6) (cc := cX6_weary) (nL := 2) (by decide +kernel) rfl rfl (Nat.le_of_ble_eq_true rfl) rfl (fun _ => rfl) (fun K cx fin => ?_)
  refine j_iload_n 0 cx 1 dX6_weary_0 rfl ?_
  refine j_i2l 1 cx dX6_weary_1 ?_
  refine j_iconst 2 cx 0 dX6_weary_2 (by decide) ?_
  refine j_bipush 3 cx 99 dX6_weary_3 (by decide) ?_
  refine j_callS_i 5 cx 3 [] [.long (v.toInt64), .int 0, .int 99] (fun _ => wMO o am (sP S) la (nI (sL S)) tk be an va bd ++ ([((am 0), .inl (gI G, 51, .inl (mm (sN S))))] ++ [((am 3), .inl (gI G, 7, .inl (sF S)))])) (c_X6_in (kl K) G (v.toInt64) 0 99) gX6_weary_X6_in rfl rfl rfl ⟨by decide, by decide, rfl⟩ ⟨Nat.le_of_ble_eq_true rfl, Nat.le_of_ble_eq_true rfl⟩ ⟨Nat.zero_le _, Nat.zero_le _⟩ rfl (by decide) rfl rfl (Nat.le_of_ble_eq_true rfl) dX6_weary_5 (fun _ => rfl) (fun zu1 zk1 => ?_)
  refine j_top (bI (inL (v.toInt64) 0 99)) rfl ?_
  refine j_top (bI (inI v 0 99)) (congrArg bI (inL_i v 0 99)) ?_
  refine j_ifB_eq 8 cx 20 dX6_weary_8 (by decide) (fun zc1 => ?_) (fun zc1 => ?_)
  · skip
    refine j_aload_n 20 cx 0 dX6_weary_20 rfl ?_
    refine j_ldc 21 cx (v := -1000000001) (List.mem_of_getElem? (i := 1) rfl) dX6_weary_21 ?_
    refine j_callV_i 23 cx 1 [0, 2] [.int (fcode 0)] (fun _ => wMO o am (sP S) la (nI (sL S)) tk be an va bd ++ ([((am 0), .inl (gI G, 51, .inl (mm (sN S))))] ++ [((am 3), .inl (gI G, 7, .inl (upd (sF S) 0 ((sF S) 0 + 1))))])) (c_X6_finds (kl K) G o am (sP S) la (nI (sL S)) tk be an va bd (sF S) 0 (by decide)) gX6_weary_X6_finds rfl rfl rfl ⟨rfl, by decide, by decide, rfl⟩ ⟨Nat.le_of_ble_eq_true rfl, Nat.le_of_ble_eq_true rfl⟩ ⟨Nat.zero_le _, Nat.zero_le _⟩ rfl (by decide) (ci := 5) 0 rfl rfl rfl rfl rfl (Nat.le_of_ble_eq_true rfl) dX6_weary_23 (fun _ => rfl) (fun zu2 zk2 => ?_)
    refine j_top (fcode 0) rfl ?_
    have ze : (sp_weary v S) = bad S 0 := by unfold sp_weary; simp [bI_t, bI_f, zc1]
    exact fin () _ _ _ _ dX6_weary_26 rfl (by rw [ze] <;> rfl) (by rw [ze] <;> rfl) trivial
  · skip
    refine j_aload_n 11 cx 0 dX6_weary_11 rfl ?_
    refine j_iconst 12 cx 1 dX6_weary_12 (by decide) ?_
    refine j_iload_n 13 cx 1 dX6_weary_13 rfl ?_
    refine j_callV_i 14 cx 2 [0, 1] [.int 1, .int v] (fun _ => wMO o am (sP S) la (nI (sL S)) tk be an va bd ++ ([((am 0), .inl (gI G, 51, .inl (upd (mm (sN S)) 1 v)))] ++ [((am 3), .inl (gI G, 7, .inl (sF S)))])) (c_X6_becomes (kl K) G o am (sP S) la (nI (sL S)) tk be an va bd (mm (sN S)) 1 v (by omega)) gX6_weary_X6_becomes rfl rfl rfl ⟨rfl, by decide, by decide, rfl⟩ ⟨Nat.le_of_ble_eq_true rfl, Nat.le_of_ble_eq_true rfl⟩ ⟨Nat.zero_le _, Nat.zero_le _⟩ rfl (by decide) (ci := 5) 0 rfl rfl rfl rfl rfl (Nat.le_of_ble_eq_true rfl) dX6_weary_14 (fun _ => rfl) (fun zu3 zk3 => ?_)
    refine j_ws (wMO o am (sP S) la (nI (sL S)) tk be an va bd ++ ([((am 0), .inl (gI G, 51, .inl (mm (up2 (sN S) 0 1 v))))] ++ [((am 3), .inl (gI G, 7, .inl (sF S)))])) (congrArg (fun zf : Nat → Int32 => wMO o am (sP S) la (nI (sL S)) tk be an va bd ++ ([((am 0), .inl (gI G, 51, .inl zf))] ++ [((am 3), .inl (gI G, 7, .inl (sF S)))])) (mm_usc _ _ (by omega))) ?_
    refine j_top ((mm (sN S)) 1) rfl ?_
    refine j_top ((sN S) 0 1) rfl ?_
    refine j_goto 17 cx 26 dX6_weary_17 (by decide) ?_
    have ze : (sp_weary v S) = ((sN S) 0 1, stN S (up2 (sN S) 0 1 v)) := by unfold sp_weary; simp [bI_t, bI_f, zc1]
    exact fin () _ _ _ _ dX6_weary_26 rfl (by rw [ze] <;> rfl) (by rw [ze] <;> rfl) trivial
set_option maxRecDepth 100000 in
set_option maxHeartbeats 4000000 in
theorem c_X6_free (l : Launch) (G : pG) (o : Nat) (am : Nat → Nat) (S : St) (la tk be an va : Int32) (bd : Bool) (ω : Nu) (hI : Inv (sN S)) (hD : dyN (sN S) ≤ 9999) (pl v : Int32) : KI l G yX6_free wsX6_free ({ frames := 1, cells := 0, slots := 0, locals := 23 } : Room) [.ref o, .int pl, .int v] (wMO o am (sP S) la (nI (sL S)) tk be an va bd ++ ([((am 0), .inl (gI G, 51, .inl (mm (sN S))))] ++ [((am 3), .inl (gI G, 7, .inl (sF S)))])) (S := Unit) (fun _ => True) (fun u => (sp_free pl v S).1) (fun u => wMO o am (sP S) la (nI (sL S)) tk be an va bd ++ ([((am 0), .inl (gI G, 51, .inl (mm (sN (sp_free pl v S).2))))] ++ [((am 3), .inl (gI G, 7, .inl (sF (sp_free pl v S).2)))])) := by
  refine ki_of [(0, .ref o), (1, .int pl), (2, .int v)] (own := RX6) (cc := cX6_free) (nL := 3) (by decide +kernel) rfl rfl (Nat.le_of_ble_eq_true rfl) rfl (fun _ => rfl) (fun K cx fin => ?_)
  refine j_iload_n 0 cx 1 dX6_free_0 rfl ?_
  refine j_i2l 1 cx dX6_free_1 ?_
  refine j_iconst 2 cx 0 dX6_free_2 (by decide) ?_
  refine j_bipush 3 cx 6 dX6_free_3 (by decide) ?_
  refine j_callS_i 5 cx 3 [] [.long (pl.toInt64), .int 0, .int 6] (fun _ => wMO o am (sP S) la (nI (sL S)) tk be an va bd ++ ([((am 0), .inl (gI G, 51, .inl (mm (sN S))))] ++ [((am 3), .inl (gI G, 7, .inl (sF S)))])) (c_X6_in (kl K) G (pl.toInt64) 0 6) gX6_free_X6_in rfl rfl rfl ⟨by decide, by decide, rfl⟩ ⟨Nat.le_of_ble_eq_true rfl, Nat.le_of_ble_eq_true rfl⟩ ⟨Nat.zero_le _, Nat.zero_le _⟩ rfl (by decide) rfl rfl (Nat.le_of_ble_eq_true rfl) dX6_free_5 (fun _ => rfl) (fun zu1 zk1 => ?_)
  refine j_top (bI (inL (pl.toInt64) 0 6)) rfl ?_
  refine j_top (bI (inI pl 0 6)) (congrArg bI (inL_i pl 0 6)) ?_
  refine j_ifB_eq 8 cx 32 dX6_free_8 (by decide) (fun zc1 => ?_) (fun zc1 => ?_)
  · skip
    refine j_aload_n 32 cx 0 dX6_free_32 rfl ?_
    refine j_ldc 33 cx (v := -1000000001) (List.mem_of_getElem? (i := 1) rfl) dX6_free_33 ?_
    refine j_callV_i 35 cx 1 [0, 2] [.int (fcode 0)] (fun _ => wMO o am (sP S) la (nI (sL S)) tk be an va bd ++ ([((am 0), .inl (gI G, 51, .inl (mm (sN S))))] ++ [((am 3), .inl (gI G, 7, .inl (upd (sF S) 0 ((sF S) 0 + 1))))])) (c_X6_finds (kl K) G o am (sP S) la (nI (sL S)) tk be an va bd (sF S) 0 (by decide)) gX6_free_X6_finds rfl rfl rfl ⟨rfl, by decide, by decide, rfl⟩ ⟨Nat.le_of_ble_eq_true rfl, Nat.le_of_ble_eq_true rfl⟩ ⟨Nat.zero_le _, Nat.zero_le _⟩ rfl (by decide) (ci := 5) 0 rfl rfl rfl rfl rfl (Nat.le_of_ble_eq_true rfl) dX6_free_35 (fun _ => rfl) (fun zu2 zk2 => ?_)
    refine j_top (fcode 0) rfl ?_
    have ze : (sp_free pl v S) = bad S 0 := by unfold sp_free; simp [bI_t, bI_f, zc1]
    exact fin () _ _ _ _ dX6_free_38 rfl (by rw [ze] <;> rfl) (by rw [ze] <;> rfl) trivial
  · skip
    obtain ⟨kn, hkn1, hkn2, rfl⟩ := in_c (L := 0) (M := 6) (a := 0) (m := 6) rfl rfl zc1
    have hckn : (nI kn).toNatClampNeg = kn := nI_clamp (by omega)
    refine j_iload_n 11 cx 2 dX6_free_11 rfl ?_
    refine j_i2l 12 cx dX6_free_12 ?_
    refine j_iconst 13 cx 0 dX6_free_13 (by decide) ?_
    refine j_iconst 14 cx 1 dX6_free_14 (by decide) ?_
    refine j_callS_i 15 cx 3 [] [.long (v.toInt64), .int 0, .int 1] (fun _ => wMO o am (sP S) la (nI (sL S)) tk be an va bd ++ ([((am 0), .inl (gI G, 51, .inl (mm (sN S))))] ++ [((am 3), .inl (gI G, 7, .inl (sF S)))])) (c_X6_in (kl K) G (v.toInt64) 0 1) gX6_free_X6_in rfl rfl rfl ⟨by decide, by decide, rfl⟩ ⟨Nat.le_of_ble_eq_true rfl, Nat.le_of_ble_eq_true rfl⟩ ⟨Nat.zero_le _, Nat.zero_le _⟩ rfl (by decide) rfl rfl (Nat.le_of_ble_eq_true rfl) dX6_free_15 (fun _ => rfl) (fun zu3 zk3 => ?_)
    refine j_top (bI (inL (v.toInt64) 0 1)) rfl ?_
    refine j_top (bI (inI v 0 1)) (congrArg bI (inL_i v 0 1)) ?_
    refine j_ifB_eq 18 cx 32 dX6_free_18 (by decide) (fun zc2 => ?_) (fun zc2 => ?_)
    · skip
      refine j_aload_n 32 cx 0 dX6_free_32 rfl ?_
      refine j_ldc 33 cx (v := -1000000001) (List.mem_of_getElem? (i := 1) rfl) dX6_free_33 ?_
      refine j_callV_i 35 cx 1 [0, 2] [.int (fcode 0)] (fun _ => wMO o am (sP S) la (nI (sL S)) tk be an va bd ++ ([((am 0), .inl (gI G, 51, .inl (mm (sN S))))] ++ [((am 3), .inl (gI G, 7, .inl (upd (sF S) 0 ((sF S) 0 + 1))))])) (c_X6_finds (kl K) G o am (sP S) la (nI (sL S)) tk be an va bd (sF S) 0 (by decide)) gX6_free_X6_finds rfl rfl rfl ⟨rfl, by decide, by decide, rfl⟩ ⟨Nat.le_of_ble_eq_true rfl, Nat.le_of_ble_eq_true rfl⟩ ⟨Nat.zero_le _, Nat.zero_le _⟩ rfl (by decide) (ci := 5) 0 rfl rfl rfl rfl rfl (Nat.le_of_ble_eq_true rfl) dX6_free_35 (fun _ => rfl) (fun zu4 zk4 => ?_)
      refine j_top (fcode 0) rfl ?_
      have ze : (sp_free (nI kn) v S) = bad S 0 := by unfold sp_free; simp [bI_t, bI_f, zc1, hckn, zc2]
      exact fin () _ _ _ _ dX6_free_38 rfl (by rw [ze] <;> rfl) (by rw [ze] <;> rfl) trivial
    · skip
      refine j_aload_n 21 cx 0 dX6_free_21 rfl ?_
      refine j_iconst 22 cx 4 dX6_free_22 (by decide) ?_
      refine j_iload_n 23 cx 1 dX6_free_23 rfl ?_
      refine j_iadd 24 cx dX6_free_24 ?_
      refine j_top (nI (4 + kn)) (nI_add 4 kn) ?_
      refine j_iload_n 25 cx 2 dX6_free_25 rfl ?_
      refine j_callV_i 26 cx 2 [0, 1] [.int (nI (4 + kn)), .int v] (fun _ => wMO o am (sP S) la (nI (sL S)) tk be an va bd ++ ([((am 0), .inl (gI G, 51, .inl (upd (mm (sN S)) (4 + kn) v)))] ++ [((am 3), .inl (gI G, 7, .inl (sF S)))])) (c_X6_becomes (kl K) G o am (sP S) la (nI (sL S)) tk be an va bd (mm (sN S)) (4 + kn) v (by omega)) gX6_free_X6_becomes rfl rfl rfl ⟨rfl, by decide, by decide, rfl⟩ ⟨Nat.le_of_ble_eq_true rfl, Nat.le_of_ble_eq_true rfl⟩ ⟨Nat.zero_le _, Nat.zero_le _⟩ rfl (by decide) (ci := 5) 0 rfl rfl rfl rfl rfl (Nat.le_of_ble_eq_true rfl) dX6_free_26 (fun _ => rfl) (fun zu5 zk5 => ?_)
      refine j_ws (wMO o am (sP S) la (nI (sL S)) tk be an va bd ++ ([((am 0), .inl (gI G, 51, .inl (mm (up2 (sN S) 1 kn v))))] ++ [((am 3), .inl (gI G, 7, .inl (sF S)))])) (congrArg (fun zf : Nat → Int32 => wMO o am (sP S) la (nI (sL S)) tk be an va bd ++ ([((am 0), .inl (gI G, 51, .inl zf))] ++ [((am 3), .inl (gI G, 7, .inl (sF S)))])) (mm_ufr _ _ (by omega))) ?_
      refine j_top ((mm (sN S)) (4 + kn)) rfl ?_
      refine j_top ((sN S) 1 kn) (mm_fr _ (by omega)) ?_
      refine j_goto 29 cx 38 dX6_free_29 (by decide) ?_
      have ze : (sp_free (nI kn) v S) = ((sN S) 1 kn, stN S (up2 (sN S) 1 kn v)) := by unfold sp_free; simp [bI_t, bI_f, zc1, hckn, zc2]
      exact fin () _ _ _ _ dX6_free_38 rfl (by rw [ze] <;> rfl) (by rw [ze] <;> rfl) trivial
set_option maxRecDepth 100000 in
set_option maxHeartbeats 4000000 in
theorem c_X6_now (l : Launch) (G : pG) (o : Nat) (am : Nat → Nat) (S : St) (la tk be an va : Int32) (bd : Bool) (ω : Nu) (hI : Inv (sN S)) (hD : dyN (sN S) ≤ 9999) (w : Int32) : KI l G yX6_now wsX6_now ({ frames := 6, cells := 0, slots := 0, locals := 135 } : Room) [.ref o, .int w] (wMO o am (sP S) la (nI (sL S)) tk be an va bd ++ ([((am 0), .inl (gI G, 51, .inl (mm (sN S))))] ++ [((am 3), .inl (gI G, 7, .inl (sF S)))])) (S := Unit) (fun _ => True) (fun u => (sp_now w S).1) (fun u => wMO o am (sP S) la (nI (sL S)) tk be an va bd ++ ([((am 0), .inl (gI G, 51, .inl (mm (sN (sp_now w S).2))))] ++ [((am 3), .inl (gI G, 7, .inl (sF (sp_now w S).2)))])) := by
  refine ki_of [(0, .ref o), (1, .int w)] (own := RX6) (cc := cX6_now) (nL := 2) (by decide +kernel) rfl rfl (Nat.le_of_ble_eq_true rfl) rfl (fun _ => rfl) (fun K cx fin => ?_)
  refine j_iload_n 0 cx 1 dX6_now_0 rfl ?_
  by_cases zc1 : w = 0
  · skip
    refine j_tableIn 1 cx 44 (0) dX6_now_1 zc1 (by decide) (by decide) (by decide) rfl (by decide) ?_
    refine j_aload_n 44 cx 0 dX6_now_44 rfl ?_
    refine j_get 45 cx 0 0 (T := TX6) (v := .ref ((am 0))) (fun _ h => List.mem_cons_of_mem _ (List.mem_append_right _ (h))) (List.mem_of_getElem? (i := 1) rfl) (ci := 5) rfl (by decide) rfl rfl rfl dX6_now_45 ?_
    refine j_iconst 48 cx 0 dX6_now_48 (by decide) ?_
    refine j_iald 49 cx 1 0 rfl rfl (by omega) (by decide) dX6_now_49 ?_
    refine j_top ((sN S) 0 0) rfl ?_
    have ze : (sp_now w S) = ((sN S) 0 0, S) := by unfold sp_now; simp [bI_t, bI_f, zc1]
    exact fin () _ _ _ _ dX6_now_50 rfl (by rw [ze] <;> rfl) (by rw [ze] <;> rfl) trivial
  · skip
    by_cases zc2 : w = 1
    · skip
      refine j_tableIn 1 cx 51 (1) dX6_now_1 zc2 (by decide) (by decide) (by decide) rfl (by decide) ?_
      refine j_aload_n 51 cx 0 dX6_now_51 rfl ?_
      refine j_callV_i 52 cx 0 [0, 1] [] (fun _ => wMO o am (sP S) la (nI (sL S)) tk be an va bd ++ ([((am 0), .inl (gI G, 51, .inl (mm (sN S))))] ++ [((am 3), .inl (gI G, 7, .inl (sF S)))])) (c_X6_isHoliday (kl K) G o am (sP S) la (nI (sL S)) tk be an va bd (sN S)  hI.dy hI.dyM ) gX6_now_X6_isHoliday rfl rfl rfl ⟨rfl, by decide, by decide, rfl⟩ ⟨Nat.le_of_ble_eq_true rfl, Nat.le_of_ble_eq_true rfl⟩ ⟨Nat.zero_le _, Nat.zero_le _⟩ rfl (by decide) (ci := 5) 0 rfl rfl rfl rfl rfl (Nat.le_of_ble_eq_true rfl) dX6_now_52 (fun _ => rfl) (fun zu1 zk1 => ?_)
      refine j_top (bI (hol (sN S))) rfl ?_
      refine j_ifB_eq 55 cx 62 dX6_now_55 (by decide) (fun zc3 => ?_) (fun zc3 => ?_)
      · skip
        refine j_iconst 62 cx 0 dX6_now_62 (by decide) ?_
        have ze : (sp_now w S) = (0, S) := by unfold sp_now; simp [bI_t, bI_f, zc1, zc2, zc3]
        exact fin () _ _ _ _ dX6_now_63 rfl (by rw [ze] <;> rfl) (by rw [ze] <;> rfl) trivial
      · skip
        refine j_iconst 58 cx 1 dX6_now_58 (by decide) ?_
        refine j_goto 59 cx 63 dX6_now_59 (by decide) ?_
        have ze : (sp_now w S) = (1, S) := by unfold sp_now; simp [bI_t, bI_f, zc1, zc2, zc3]
        exact fin () _ _ _ _ dX6_now_63 rfl (by rw [ze] <;> rfl) (by rw [ze] <;> rfl) trivial
    · skip
      by_cases zc4 : w = 2
      · skip
        refine j_tableIn 1 cx 64 (2) dX6_now_1 zc4 (by decide) (by decide) (by decide) rfl (by decide) ?_
        refine j_aload_n 64 cx 0 dX6_now_64 rfl ?_
        refine j_get 65 cx 0 0 (T := TX6) (v := .ref ((am 0))) (fun _ h => List.mem_cons_of_mem _ (List.mem_append_right _ (h))) (List.mem_of_getElem? (i := 1) rfl) (ci := 5) rfl (by decide) rfl rfl rfl dX6_now_65 ?_
        refine j_iconst 68 cx 1 dX6_now_68 (by decide) ?_
        refine j_iald 69 cx 1 1 rfl rfl (by omega) (by decide) dX6_now_69 ?_
        refine j_top ((sN S) 0 1) rfl ?_
        have ze : (sp_now w S) = ((sN S) 0 1, S) := by unfold sp_now; simp [bI_t, bI_f, zc1, zc2, zc4]
        exact fin () _ _ _ _ dX6_now_70 rfl (by rw [ze] <;> rfl) (by rw [ze] <;> rfl) trivial
      · skip
        by_cases zc5 : w = 3
        · skip
          refine j_tableIn 1 cx 71 (3) dX6_now_1 zc5 (by decide) (by decide) (by decide) rfl (by decide) ?_
          refine j_aload_n 71 cx 0 dX6_now_71 rfl ?_
          refine j_get 72 cx 0 0 (T := TX6) (v := .ref ((am 0))) (fun _ h => List.mem_cons_of_mem _ (List.mem_append_right _ (h))) (List.mem_of_getElem? (i := 1) rfl) (ci := 5) rfl (by decide) rfl rfl rfl dX6_now_72 ?_
          refine j_iconst 75 cx 2 dX6_now_75 (by decide) ?_
          refine j_iald 76 cx 1 2 rfl rfl (by omega) (by decide) dX6_now_76 ?_
          refine j_top ((sN S) 0 2) rfl ?_
          have ze : (sp_now w S) = ((sN S) 0 2, S) := by unfold sp_now; simp [bI_t, bI_f, zc1, zc2, zc4, zc5]
          exact fin () _ _ _ _ dX6_now_77 rfl (by rw [ze] <;> rfl) (by rw [ze] <;> rfl) trivial
        · skip
          by_cases zc6 : w = 4
          · skip
            refine j_tableIn 1 cx 78 (4) dX6_now_1 zc6 (by decide) (by decide) (by decide) rfl (by decide) ?_
            refine j_aload_n 78 cx 0 dX6_now_78 rfl ?_
            refine j_callV_i 79 cx 0 [0, 1] [] (fun _ => wMO o am (sP S) la (nI (sL S)) tk be an va bd ++ ([((am 0), .inl (gI G, 51, .inl (mm (sN S))))] ++ [((am 3), .inl (gI G, 7, .inl (sF S)))])) (c_X6_loudest (kl K) G o am (sP S) la (nI (sL S)) tk be an va bd (sN S)  hI ) gX6_now_X6_loudest rfl rfl rfl ⟨rfl, by decide, by decide, rfl⟩ ⟨Nat.le_of_ble_eq_true rfl, Nat.le_of_ble_eq_true rfl⟩ ⟨Nat.zero_le _, Nat.zero_le _⟩ rfl (by decide) (ci := 5) 0 rfl rfl rfl rfl rfl (Nat.le_of_ble_eq_true rfl) dX6_now_79 (fun _ => rfl) (fun zu2 zk2 => ?_)
            refine j_top (oI (loud (sN S))) rfl ?_
            have ze : (sp_now w S) = (oI (loud (sN S)), S) := by unfold sp_now; simp [bI_t, bI_f, zc1, zc2, zc4, zc5, zc6]
            exact fin () _ _ _ _ dX6_now_82 rfl (by rw [ze] <;> rfl) (by rw [ze] <;> rfl) trivial
          · skip
            by_cases zc7 : w = 5
            · skip
              refine j_tableIn 1 cx 83 (5) dX6_now_1 zc7 (by decide) (by decide) (by decide) rfl (by decide) ?_
              refine j_aload_n 83 cx 0 dX6_now_83 rfl ?_
              refine j_callV_i 84 cx 0 [0, 1] [] (fun _ => wMO o am (sP S) la (nI (sL S)) tk be an va bd ++ ([((am 0), .inl (gI G, 51, .inl (mm (sN S))))] ++ [((am 3), .inl (gI G, 7, .inl (sF S)))])) (c_X6_doneOnes (kl K) G o am (sP S) la (nI (sL S)) tk be an va bd (sN S)  hI ) gX6_now_X6_doneOnes rfl rfl rfl ⟨rfl, by decide, by decide, rfl⟩ ⟨Nat.le_of_ble_eq_true rfl, Nat.le_of_ble_eq_true rfl⟩ ⟨Nat.zero_le _, Nat.zero_le _⟩ rfl (by decide) (ci := 5) 0 rfl rfl rfl rfl rfl (Nat.le_of_ble_eq_true rfl) dX6_now_84 (fun _ => rfl) (fun zu3 zk3 => ?_)
              refine j_top (setF (sN S) (done (sN S)) (szN (sN S))) rfl ?_
              have ze : (sp_now w S) = (setF (sN S) (done (sN S)) (szN (sN S)), S) := by unfold sp_now; simp [bI_t, bI_f, zc1, zc2, zc4, zc5, zc6, zc7]
              exact fin () _ _ _ _ dX6_now_87 rfl (by rw [ze] <;> rfl) (by rw [ze] <;> rfl) trivial
            · skip
              by_cases zc8 : w = 6
              · skip
                refine j_tableIn 1 cx 88 (6) dX6_now_1 zc8 (by decide) (by decide) (by decide) rfl (by decide) ?_
                refine j_aload_n 88 cx 0 dX6_now_88 rfl ?_
                refine j_callV_i 89 cx 0 [0, 1] [] (fun _ => wMO o am (sP S) la (nI (sL S)) tk be an va bd ++ ([((am 0), .inl (gI G, 51, .inl (mm (sN S))))] ++ [((am 3), .inl (gI G, 7, .inl (sF S)))])) (c_X6_behindhand (kl K) G o am (sP S) la (nI (sL S)) tk be an va bd (sN S)  hI ) gX6_now_X6_behindhand rfl rfl rfl ⟨rfl, by decide, by decide, rfl⟩ ⟨Nat.le_of_ble_eq_true rfl, Nat.le_of_ble_eq_true rfl⟩ ⟨Nat.zero_le _, Nat.zero_le _⟩ rfl (by decide) (ci := 5) 0 rfl rfl rfl rfl rfl (Nat.le_of_ble_eq_true rfl) dX6_now_89 (fun _ => rfl) (fun zu4 zk4 => ?_)
                refine j_top (setF (sN S) (behF (sN S)) (szN (sN S))) rfl ?_
                have ze : (sp_now w S) = (setF (sN S) (behF (sN S)) (szN (sN S)), S) := by unfold sp_now; simp [bI_t, bI_f, zc1, zc2, zc4, zc5, zc6, zc7, zc8]
                exact fin () _ _ _ _ dX6_now_92 rfl (by rw [ze] <;> rfl) (by rw [ze] <;> rfl) trivial
              · skip
                refine j_tableOut 1 cx 93 dX6_now_1 (tb_out (fun z h1 h2 => by
                    have hz : z = 0 ∨ z = 1 ∨ z = 2 ∨ z = 3 ∨ z = 4 ∨ z = 5 ∨ z = 6 := by omega
                    rcases hz with rfl | rfl | rfl | rfl | rfl | rfl | rfl
                    · exact ne_ti zc1 (by decide)
                    · exact ne_ti zc2 (by decide)
                    · exact ne_ti zc4 (by decide)
                    · exact ne_ti zc5 (by decide)
                    · exact ne_ti zc6 (by decide)
                    · exact ne_ti zc7 (by decide)
                    · exact ne_ti zc8 (by decide))) (by decide) ?_
                refine j_aload_n 93 cx 0 dX6_now_93 rfl ?_
                refine j_ldc 94 cx (v := -1000000001) (List.mem_of_getElem? (i := 2) rfl) dX6_now_94 ?_
                refine j_callV_i 96 cx 1 [0, 2] [.int (fcode 0)] (fun _ => wMO o am (sP S) la (nI (sL S)) tk be an va bd ++ ([((am 0), .inl (gI G, 51, .inl (mm (sN S))))] ++ [((am 3), .inl (gI G, 7, .inl (upd (sF S) 0 ((sF S) 0 + 1))))])) (c_X6_finds (kl K) G o am (sP S) la (nI (sL S)) tk be an va bd (sF S) 0 (by decide)) gX6_now_X6_finds rfl rfl rfl ⟨rfl, by decide, by decide, rfl⟩ ⟨Nat.le_of_ble_eq_true rfl, Nat.le_of_ble_eq_true rfl⟩ ⟨Nat.zero_le _, Nat.zero_le _⟩ rfl (by decide) (ci := 5) 0 rfl rfl rfl rfl rfl (Nat.le_of_ble_eq_true rfl) dX6_now_96 (fun _ => rfl) (fun zu5 zk5 => ?_)
                refine j_top (fcode 0) rfl ?_
                have ze : (sp_now w S) = bad S 0 := by unfold sp_now; simp [bI_t, bI_f, zc1, zc2, zc4, zc5, zc6, zc7, zc8]
                exact fin () _ _ _ _ dX6_now_99 rfl (by rw [ze] <;> rfl) (by rw [ze] <;> rfl) trivial
set_option maxRecDepth 100000 in
set_option maxHeartbeats 4000000 in
theorem c_X6_part (l : Launch) (G : pG) (o : Nat) (am : Nat → Nat) (S : St) (la tk be an va : Int32) (bd : Bool) (ω : Nu) (hI : Inv (sN S)) (hD : dyN (sN S) ≤ 9999) (k d : Int32) : KI l G yX6_part wsX6_part ({ frames := 2, cells := 0, slots := 0, locals := 48 } : Room) [.ref o, .int k, .int d] (wMO o am (sP S) la (nI (sL S)) tk be an va bd ++ ([((am 0), .inl (gI G, 51, .inl (mm (sN S))))] ++ [((am 3), .inl (gI G, 7, .inl (sF S)))])) (S := Unit) (fun _ => True) (fun u => (sp_part k d S).1) (fun u => wMO o am (sP S) la (nI (sL S)) tk be an va bd ++ ([((am 0), .inl (gI G, 51, .inl (mm (sN (sp_part k d S).2))))] ++ [((am 3), .inl (gI G, 7, .inl (sF (sp_part k d S).2)))])) := by
  refine ki_of [(0, .ref o), (1, .int k), (2, .int d)] (own := RX6) (cc := cX6_part) (nL := 3) (by decide +kernel) rfl rfl (Nat.le_of_ble_eq_true rfl) rfl (fun _ => rfl) (fun K cx fin => ?_)
  refine j_iload_n 0 cx 1 dX6_part_0 rfl ?_
  refine j_i2l 1 cx dX6_part_1 ?_
  refine j_iconst 2 cx 0 dX6_part_2 (by decide) ?_
  refine j_iconst 3 cx 5 dX6_part_3 (by decide) ?_
  refine j_callS_i 4 cx 3 [] [.long (k.toInt64), .int 0, .int 5] (fun _ => wMO o am (sP S) la (nI (sL S)) tk be an va bd ++ ([((am 0), .inl (gI G, 51, .inl (mm (sN S))))] ++ [((am 3), .inl (gI G, 7, .inl (sF S)))])) (c_X6_in (kl K) G (k.toInt64) 0 5) gX6_part_X6_in rfl rfl rfl ⟨by decide, by decide, rfl⟩ ⟨Nat.le_of_ble_eq_true rfl, Nat.le_of_ble_eq_true rfl⟩ ⟨Nat.zero_le _, Nat.zero_le _⟩ rfl (by decide) rfl rfl (Nat.le_of_ble_eq_true rfl) dX6_part_4 (fun _ => rfl) (fun zu1 zk1 => ?_)
  refine j_top (bI (inL (k.toInt64) 0 5)) rfl ?_
  refine j_top (bI (inI k 0 5)) (congrArg bI (inL_i k 0 5)) ?_
  refine j_ifB_eq 7 cx 22 dX6_part_7 (by decide) (fun zc1 => ?_) (fun zc1 => ?_)
  · skip
    refine j_aload_n 22 cx 0 dX6_part_22 rfl ?_
    refine j_ldc 23 cx (v := -1000000001) (List.mem_of_getElem? (i := 1) rfl) dX6_part_23 ?_
    refine j_callV_i 25 cx 1 [0, 2] [.int (fcode 0)] (fun _ => wMO o am (sP S) la (nI (sL S)) tk be an va bd ++ ([((am 0), .inl (gI G, 51, .inl (mm (sN S))))] ++ [((am 3), .inl (gI G, 7, .inl (upd (sF S) 0 ((sF S) 0 + 1))))])) (c_X6_finds (kl K) G o am (sP S) la (nI (sL S)) tk be an va bd (sF S) 0 (by decide)) gX6_part_X6_finds rfl rfl rfl ⟨rfl, by decide, by decide, rfl⟩ ⟨Nat.le_of_ble_eq_true rfl, Nat.le_of_ble_eq_true rfl⟩ ⟨Nat.zero_le _, Nat.zero_le _⟩ rfl (by decide) (ci := 5) 0 rfl rfl rfl rfl rfl (Nat.le_of_ble_eq_true rfl) dX6_part_25 (fun _ => rfl) (fun zu2 zk2 => ?_)
    refine j_top (fcode 0) rfl ?_
    have ze : (sp_part k d S) = bad S 0 := by unfold sp_part; simp [bI_t, bI_f, zc1]
    exact fin () _ _ _ _ dX6_part_28 rfl (by rw [ze] <;> rfl) (by rw [ze] <;> rfl) trivial
  · skip
    refine j_iload_n 10 cx 2 dX6_part_10 rfl ?_
    refine j_i2l 11 cx dX6_part_11 ?_
    refine j_iconst 12 cx 0 dX6_part_12 (by decide) ?_
    refine j_sipush 13 cx 9999 dX6_part_13 (by decide) ?_
    refine j_callS_i 16 cx 3 [] [.long (d.toInt64), .int 0, .int 9999] (fun _ => wMO o am (sP S) la (nI (sL S)) tk be an va bd ++ ([((am 0), .inl (gI G, 51, .inl (mm (sN S))))] ++ [((am 3), .inl (gI G, 7, .inl (sF S)))])) (c_X6_in (kl K) G (d.toInt64) 0 9999) gX6_part_X6_in rfl rfl rfl ⟨by decide, by decide, rfl⟩ ⟨Nat.le_of_ble_eq_true rfl, Nat.le_of_ble_eq_true rfl⟩ ⟨Nat.zero_le _, Nat.zero_le _⟩ rfl (by decide) rfl rfl (Nat.le_of_ble_eq_true rfl) dX6_part_16 (fun _ => rfl) (fun zu3 zk3 => ?_)
    refine j_top (bI (inL (d.toInt64) 0 9999)) rfl ?_
    refine j_top (bI (inI d 0 9999)) (congrArg bI (inL_i d 0 9999)) ?_
    refine j_ifB_ne 19 cx 29 dX6_part_19 (by decide) (fun zc2 => ?_) (fun zc2 => ?_)
    · skip
      refine j_aload_n 29 cx 0 dX6_part_29 rfl ?_
      refine j_get 30 cx 0 0 (T := TX6) (v := .ref ((am 0))) (fun _ h => List.mem_cons_of_mem _ (List.mem_append_right _ (h))) (List.mem_of_getElem? (i := 2) rfl) (ci := 5) rfl (by decide) rfl rfl rfl dX6_part_30 ?_
      refine j_iconst 33 cx 3 dX6_part_33 (by decide) ?_
      refine j_iald 34 cx 1 3 rfl rfl (by omega) (by decide) dX6_part_34 ?_
      refine j_top ((sN S) 0 3) rfl ?_
      refine j_top (nI (szN (sN S))) hI.sz ?_
      refine j_bipush 35 cx 8 dX6_part_35 (by decide) ?_
      refine j_icmp_ne 37 cx 49 dX6_part_37 (by decide) (fun zc3 => ?_) (fun zc3 => ?_)
      · skip
        have hz9 : ¬ szN (sN S) = 8 := fun h => zc3 (by rw [h]; rfl)
        have hz8 : szN (sN S) < 8 := by have := hI.sz8; omega
        refine j_aload_n 49 cx 0 dX6_part_49 rfl ?_
        refine j_iload_n 50 cx 1 dX6_part_50 rfl ?_
        refine j_iload_n 51 cx 2 dX6_part_51 rfl ?_
        refine j_bipush 52 cx 10 dX6_part_52 (by decide) ?_
        refine j_iconst 54 cx 0 dX6_part_54 (by decide) ?_
        refine j_callV_i 55 cx 4 [0, 1] [.int k, .int d, .int 10, .int 0] (fun _ => wMO o am (sP S) la (nI (sL S)) tk be an va bd ++ ([((am 0), .inl (gI G, 51, .inl (mm (addF (sN S) k 10 d 0))))] ++ [((am 3), .inl (gI G, 7, .inl (sF S)))])) (c_X6_comesAs (kl K) G o am (sP S) la (nI (sL S)) tk be an va bd (sN S) k d 10 0 hI.sz hz8) gX6_part_X6_comesAs rfl rfl rfl ⟨rfl, by decide, by decide, rfl⟩ ⟨Nat.le_of_ble_eq_true rfl, Nat.le_of_ble_eq_true rfl⟩ ⟨Nat.zero_le _, Nat.zero_le _⟩ rfl (by decide) (ci := 5) 0 rfl rfl rfl rfl rfl (Nat.le_of_ble_eq_true rfl) dX6_part_55 (fun _ => rfl) (fun zu4 zk4 => ?_)
        refine j_top (nI (szN (sN S))) rfl ?_
        have ze : (sp_part k d S) = (nI (szN (sN S)), stN S (addF (sN S) k 10 d 0)) := by unfold sp_part; simp [bI_t, bI_f, zc1, zc2, zc3, hz9]
        exact fin () _ _ _ _ dX6_part_58 rfl (by rw [ze] <;> rfl) (by rw [ze] <;> rfl) trivial
      · skip
        have hz9 : szN (sN S) = 8 := (nI_eq (by have := hI.sz8; omega) (by omega)).mp zc3
        refine j_aload_n 40 cx 0 dX6_part_40 rfl ?_
        refine j_ldc 41 cx (v := -1000000002) (List.mem_of_getElem? (i := 3) rfl) dX6_part_41 ?_
        refine j_callV_i 43 cx 1 [0, 2] [.int (fcode 1)] (fun _ => wMO o am (sP S) la (nI (sL S)) tk be an va bd ++ ([((am 0), .inl (gI G, 51, .inl (mm (sN S))))] ++ [((am 3), .inl (gI G, 7, .inl (upd (sF S) 1 ((sF S) 1 + 1))))])) (c_X6_finds (kl K) G o am (sP S) la (nI (sL S)) tk be an va bd (sF S) 1 (by decide)) gX6_part_X6_finds rfl rfl rfl ⟨rfl, by decide, by decide, rfl⟩ ⟨Nat.le_of_ble_eq_true rfl, Nat.le_of_ble_eq_true rfl⟩ ⟨Nat.zero_le _, Nat.zero_le _⟩ rfl (by decide) (ci := 5) 0 rfl rfl rfl rfl rfl (Nat.le_of_ble_eq_true rfl) dX6_part_43 (fun _ => rfl) (fun zu5 zk5 => ?_)
        refine j_top (fcode 1) rfl ?_
        refine j_goto 46 cx 58 dX6_part_46 (by decide) ?_
        have ze : (sp_part k d S) = bad S 1 := by unfold sp_part; simp [bI_t, bI_f, zc1, zc2, zc3, hz9]
        exact fin () _ _ _ _ dX6_part_58 rfl (by rw [ze] <;> rfl) (by rw [ze] <;> rfl) trivial
    · skip
      refine j_aload_n 22 cx 0 dX6_part_22 rfl ?_
      refine j_ldc 23 cx (v := -1000000001) (List.mem_of_getElem? (i := 1) rfl) dX6_part_23 ?_
      refine j_callV_i 25 cx 1 [0, 2] [.int (fcode 0)] (fun _ => wMO o am (sP S) la (nI (sL S)) tk be an va bd ++ ([((am 0), .inl (gI G, 51, .inl (mm (sN S))))] ++ [((am 3), .inl (gI G, 7, .inl (upd (sF S) 0 ((sF S) 0 + 1))))])) (c_X6_finds (kl K) G o am (sP S) la (nI (sL S)) tk be an va bd (sF S) 0 (by decide)) gX6_part_X6_finds rfl rfl rfl ⟨rfl, by decide, by decide, rfl⟩ ⟨Nat.le_of_ble_eq_true rfl, Nat.le_of_ble_eq_true rfl⟩ ⟨Nat.zero_le _, Nat.zero_le _⟩ rfl (by decide) (ci := 5) 0 rfl rfl rfl rfl rfl (Nat.le_of_ble_eq_true rfl) dX6_part_25 (fun _ => rfl) (fun zu6 zk6 => ?_)
      refine j_top (fcode 0) rfl ?_
      have ze : (sp_part k d S) = bad S 0 := by unfold sp_part; simp [bI_t, bI_f, zc1, zc2]
      exact fin () _ _ _ _ dX6_part_28 rfl (by rw [ze] <;> rfl) (by rw [ze] <;> rfl) trivial
set_option maxRecDepth 100000 in
set_option maxHeartbeats 4000000 in
theorem c_X6_of (l : Launch) (G : pG) (o : Nat) (am : Nat → Nat) (S : St) (la tk be an va : Int32) (bd : Bool) (ω : Nu) (hI : Inv (sN S)) (hD : dyN (sN S) ≤ 9999) (p w : Int32) : KI l G yX6_of wsX6_of ({ frames := 5, cells := 0, slots := 0, locals := 111 } : Room) [.ref o, .int p, .int w] (wMO o am (sP S) la (nI (sL S)) tk be an va bd ++ ([((am 0), .inl (gI G, 51, .inl (mm (sN S))))] ++ [((am 3), .inl (gI G, 7, .inl (sF S)))])) (S := Unit) (fun _ => True) (fun u => (sp_of p w S).1) (fun u => wMO o am (sP S) la (nI (sL S)) tk be an va bd ++ ([((am 0), .inl (gI G, 51, .inl (mm (sN (sp_of p w S).2))))] ++ [((am 3), .inl (gI G, 7, .inl (sF (sp_of p w S).2)))])) := by
  refine ki_of [(0, .ref o), (1, .int p), (2, .int w)] (own := RX6) (cc := cX6_of) (nL := 3) (by decide +kernel) rfl rfl (Nat.le_of_ble_eq_true rfl) rfl (fun _ => rfl) (fun K cx fin => ?_)
  refine j_aload_n 0 cx 0 dX6_of_0 rfl ?_
  refine j_iload_n 1 cx 1 dX6_of_1 rfl ?_
  refine j_callV_i 2 cx 1 [0, 1] [.int p] (fun _ => wMO o am (sP S) la (nI (sL S)) tk be an va bd ++ ([((am 0), .inl (gI G, 51, .inl (mm (sN S))))] ++ [((am 3), .inl (gI G, 7, .inl (sF S)))])) (c_X6_isPart (kl K) G o am (sP S) la (nI (sL S)) tk be an va bd (sN S) p hI ) gX6_of_X6_isPart rfl rfl rfl ⟨rfl, by decide, by decide, rfl⟩ ⟨Nat.le_of_ble_eq_true rfl, Nat.le_of_ble_eq_true rfl⟩ ⟨Nat.zero_le _, Nat.zero_le _⟩ rfl (by decide) (ci := 5) 0 rfl rfl rfl rfl rfl (Nat.le_of_ble_eq_true rfl) dX6_of_2 (fun _ => rfl) (fun zu1 zk1 => ?_)
  refine j_top (bI (inI p 0 (nI (szN (sN S)) - 1))) rfl ?_
  refine j_ifB_eq 5 cx 19 dX6_of_5 (by decide) (fun zc1 => ?_) (fun zc1 => ?_)
  · skip
    refine j_aload_n 19 cx 0 dX6_of_19 rfl ?_
    refine j_ldc 20 cx (v := -1000000001) (List.mem_of_getElem? (i := 1) rfl) dX6_of_20 ?_
    refine j_callV_i 22 cx 1 [0, 2] [.int (fcode 0)] (fun _ => wMO o am (sP S) la (nI (sL S)) tk be an va bd ++ ([((am 0), .inl (gI G, 51, .inl (mm (sN S))))] ++ [((am 3), .inl (gI G, 7, .inl (upd (sF S) 0 ((sF S) 0 + 1))))])) (c_X6_finds (kl K) G o am (sP S) la (nI (sL S)) tk be an va bd (sF S) 0 (by decide)) gX6_of_X6_finds rfl rfl rfl ⟨rfl, by decide, by decide, rfl⟩ ⟨Nat.le_of_ble_eq_true rfl, Nat.le_of_ble_eq_true rfl⟩ ⟨Nat.zero_le _, Nat.zero_le _⟩ rfl (by decide) (ci := 5) 0 rfl rfl rfl rfl rfl (Nat.le_of_ble_eq_true rfl) dX6_of_22 (fun _ => rfl) (fun zu2 zk2 => ?_)
    refine j_top (fcode 0) rfl ?_
    have ze : (sp_of p w S) = bad S 0 := by unfold sp_of; simp [isP_eq hI, bI_t, bI_f, zc1]
    exact fin () _ _ _ _ dX6_of_25 rfl (by rw [ze] <;> rfl) (by rw [ze] <;> rfl) trivial
  · skip
    obtain ⟨k, hk, rfl⟩ := in_n (by have := hI.sz8; omega) zc1
    have h8 := hI.sz8
    have hkc : (nI k).toNatClampNeg = k := nI_clamp (by omega)
    refine j_iload_n 8 cx 2 dX6_of_8 rfl ?_
    refine j_i2l 9 cx dX6_of_9 ?_
    refine j_iconst 10 cx 0 dX6_of_10 (by decide) ?_
    refine j_bipush 11 cx 9 dX6_of_11 (by decide) ?_
    refine j_callS_i 13 cx 3 [] [.long (w.toInt64), .int 0, .int 9] (fun _ => wMO o am (sP S) la (nI (sL S)) tk be an va bd ++ ([((am 0), .inl (gI G, 51, .inl (mm (sN S))))] ++ [((am 3), .inl (gI G, 7, .inl (sF S)))])) (c_X6_in (kl K) G (w.toInt64) 0 9) gX6_of_X6_in rfl rfl rfl ⟨by decide, by decide, rfl⟩ ⟨Nat.le_of_ble_eq_true rfl, Nat.le_of_ble_eq_true rfl⟩ ⟨Nat.zero_le _, Nat.zero_le _⟩ rfl (by decide) rfl rfl (Nat.le_of_ble_eq_true rfl) dX6_of_13 (fun _ => rfl) (fun zu3 zk3 => ?_)
    refine j_top (bI (inL (w.toInt64) 0 9)) rfl ?_
    refine j_top (bI (inI w 0 9)) (congrArg bI (inL_i w 0 9)) ?_
    refine j_ifB_ne 16 cx 26 dX6_of_16 (by decide) (fun zc2 => ?_) (fun zc2 => ?_)
    · skip
      rcases in_09 zc2 with rfl | rfl | rfl | rfl | rfl | rfl | rfl | rfl | rfl | rfl
      · skip
        refine j_iload_n 26 cx 2 dX6_of_26 rfl ?_
        refine j_tableOut 27 cx 101 dX6_of_27 (by decide) (by decide) ?_
        refine j_aload_n 101 cx 0 dX6_of_101 rfl ?_
        refine j_iload_n 102 cx 1 dX6_of_102 rfl ?_
        refine j_iload_n 103 cx 2 dX6_of_103 rfl ?_
        refine j_callV_i 104 cx 2 [0, 1] [.int (nI k), .int 0] (fun _ => wMO o am (sP S) la (nI (sL S)) tk be an va bd ++ ([((am 0), .inl (gI G, 51, .inl (mm (sN S))))] ++ [((am 3), .inl (gI G, 7, .inl (sF S)))])) (c_X6_it (kl K) G o am (sP S) la (nI (sL S)) tk be an va bd (sN S) k 0 (by omega) (by omega) ) gX6_of_X6_it rfl rfl rfl ⟨rfl, by decide, by decide, rfl⟩ ⟨Nat.le_of_ble_eq_true rfl, Nat.le_of_ble_eq_true rfl⟩ ⟨Nat.zero_le _, Nat.zero_le _⟩ rfl (by decide) (ci := 5) 0 rfl rfl rfl rfl rfl (Nat.le_of_ble_eq_true rfl) dX6_of_104 (fun _ => rfl) (fun zu4 zk4 => ?_)
        refine j_top ((sN S) 2 k) rfl ?_
        have ze : (sp_of (nI k) 0 S) = ((sN S) 2 k, S) := by unfold sp_of; simp [isP_eq hI, bI_t, bI_f, zc1, hkc, zc2]
        exact fin () _ _ _ _ dX6_of_107 rfl (by rw [ze] <;> rfl) (by rw [ze] <;> rfl) trivial
      · skip
        refine j_iload_n 26 cx 2 dX6_of_26 rfl ?_
        refine j_tableOut 27 cx 101 dX6_of_27 (by decide) (by decide) ?_
        refine j_aload_n 101 cx 0 dX6_of_101 rfl ?_
        refine j_iload_n 102 cx 1 dX6_of_102 rfl ?_
        refine j_iload_n 103 cx 2 dX6_of_103 rfl ?_
        refine j_callV_i 104 cx 2 [0, 1] [.int (nI k), .int 1] (fun _ => wMO o am (sP S) la (nI (sL S)) tk be an va bd ++ ([((am 0), .inl (gI G, 51, .inl (mm (sN S))))] ++ [((am 3), .inl (gI G, 7, .inl (sF S)))])) (c_X6_it (kl K) G o am (sP S) la (nI (sL S)) tk be an va bd (sN S) k 1 (by omega) (by omega) ) gX6_of_X6_it rfl rfl rfl ⟨rfl, by decide, by decide, rfl⟩ ⟨Nat.le_of_ble_eq_true rfl, Nat.le_of_ble_eq_true rfl⟩ ⟨Nat.zero_le _, Nat.zero_le _⟩ rfl (by decide) (ci := 5) 0 rfl rfl rfl rfl rfl (Nat.le_of_ble_eq_true rfl) dX6_of_104 (fun _ => rfl) (fun zu5 zk5 => ?_)
        refine j_top ((sN S) 3 k) rfl ?_
        have ze : (sp_of (nI k) 1 S) = ((sN S) 3 k, S) := by unfold sp_of; simp [isP_eq hI, bI_t, bI_f, zc1, hkc, zc2]
        exact fin () _ _ _ _ dX6_of_107 rfl (by rw [ze] <;> rfl) (by rw [ze] <;> rfl) trivial
      · skip
        refine j_iload_n 26 cx 2 dX6_of_26 rfl ?_
        refine j_tableOut 27 cx 101 dX6_of_27 (by decide) (by decide) ?_
        refine j_aload_n 101 cx 0 dX6_of_101 rfl ?_
        refine j_iload_n 102 cx 1 dX6_of_102 rfl ?_
        refine j_iload_n 103 cx 2 dX6_of_103 rfl ?_
        refine j_callV_i 104 cx 2 [0, 1] [.int (nI k), .int 2] (fun _ => wMO o am (sP S) la (nI (sL S)) tk be an va bd ++ ([((am 0), .inl (gI G, 51, .inl (mm (sN S))))] ++ [((am 3), .inl (gI G, 7, .inl (sF S)))])) (c_X6_it (kl K) G o am (sP S) la (nI (sL S)) tk be an va bd (sN S) k 2 (by omega) (by omega) ) gX6_of_X6_it rfl rfl rfl ⟨rfl, by decide, by decide, rfl⟩ ⟨Nat.le_of_ble_eq_true rfl, Nat.le_of_ble_eq_true rfl⟩ ⟨Nat.zero_le _, Nat.zero_le _⟩ rfl (by decide) (ci := 5) 0 rfl rfl rfl rfl rfl (Nat.le_of_ble_eq_true rfl) dX6_of_104 (fun _ => rfl) (fun zu6 zk6 => ?_)
        refine j_top ((sN S) 4 k) rfl ?_
        have ze : (sp_of (nI k) 2 S) = ((sN S) 4 k, S) := by unfold sp_of; simp [isP_eq hI, bI_t, bI_f, zc1, hkc, zc2]
        exact fin () _ _ _ _ dX6_of_107 rfl (by rw [ze] <;> rfl) (by rw [ze] <;> rfl) trivial
      · skip
        refine j_iload_n 26 cx 2 dX6_of_26 rfl ?_
        refine j_tableOut 27 cx 101 dX6_of_27 (by decide) (by decide) ?_
        refine j_aload_n 101 cx 0 dX6_of_101 rfl ?_
        refine j_iload_n 102 cx 1 dX6_of_102 rfl ?_
        refine j_iload_n 103 cx 2 dX6_of_103 rfl ?_
        refine j_callV_i 104 cx 2 [0, 1] [.int (nI k), .int 3] (fun _ => wMO o am (sP S) la (nI (sL S)) tk be an va bd ++ ([((am 0), .inl (gI G, 51, .inl (mm (sN S))))] ++ [((am 3), .inl (gI G, 7, .inl (sF S)))])) (c_X6_it (kl K) G o am (sP S) la (nI (sL S)) tk be an va bd (sN S) k 3 (by omega) (by omega) ) gX6_of_X6_it rfl rfl rfl ⟨rfl, by decide, by decide, rfl⟩ ⟨Nat.le_of_ble_eq_true rfl, Nat.le_of_ble_eq_true rfl⟩ ⟨Nat.zero_le _, Nat.zero_le _⟩ rfl (by decide) (ci := 5) 0 rfl rfl rfl rfl rfl (Nat.le_of_ble_eq_true rfl) dX6_of_104 (fun _ => rfl) (fun zu7 zk7 => ?_)
        refine j_top ((sN S) 5 k) rfl ?_
        have ze : (sp_of (nI k) 3 S) = ((sN S) 5 k, S) := by unfold sp_of; simp [isP_eq hI, bI_t, bI_f, zc1, hkc, zc2]
        exact fin () _ _ _ _ dX6_of_107 rfl (by rw [ze] <;> rfl) (by rw [ze] <;> rfl) trivial
      · skip
        refine j_iload_n 26 cx 2 dX6_of_26 rfl ?_
        refine j_tableOut 27 cx 101 dX6_of_27 (by decide) (by decide) ?_
        refine j_aload_n 101 cx 0 dX6_of_101 rfl ?_
        refine j_iload_n 102 cx 1 dX6_of_102 rfl ?_
        refine j_iload_n 103 cx 2 dX6_of_103 rfl ?_
        refine j_callV_i 104 cx 2 [0, 1] [.int (nI k), .int 4] (fun _ => wMO o am (sP S) la (nI (sL S)) tk be an va bd ++ ([((am 0), .inl (gI G, 51, .inl (mm (sN S))))] ++ [((am 3), .inl (gI G, 7, .inl (sF S)))])) (c_X6_it (kl K) G o am (sP S) la (nI (sL S)) tk be an va bd (sN S) k 4 (by omega) (by omega) ) gX6_of_X6_it rfl rfl rfl ⟨rfl, by decide, by decide, rfl⟩ ⟨Nat.le_of_ble_eq_true rfl, Nat.le_of_ble_eq_true rfl⟩ ⟨Nat.zero_le _, Nat.zero_le _⟩ rfl (by decide) (ci := 5) 0 rfl rfl rfl rfl rfl (Nat.le_of_ble_eq_true rfl) dX6_of_104 (fun _ => rfl) (fun zu8 zk8 => ?_)
        refine j_top ((sN S) 6 k) rfl ?_
        have ze : (sp_of (nI k) 4 S) = ((sN S) 6 k, S) := by unfold sp_of; simp [isP_eq hI, bI_t, bI_f, zc1, hkc, zc2]
        exact fin () _ _ _ _ dX6_of_107 rfl (by rw [ze] <;> rfl) (by rw [ze] <;> rfl) trivial
      · skip
        refine j_iload_n 26 cx 2 dX6_of_26 rfl ?_
        refine j_tableIn 27 cx 60 (5) dX6_of_27 rfl (by decide) (by decide) (by decide) rfl (by decide) ?_
        refine j_aload_n 60 cx 0 dX6_of_60 rfl ?_
        refine j_iload_n 61 cx 1 dX6_of_61 rfl ?_
        refine j_callV_i 62 cx 1 [0, 1] [.int (nI k)] (fun _ => wMO o am (sP S) la (nI (sL S)) tk be an va bd ++ ([((am 0), .inl (gI G, 51, .inl (mm (sN S))))] ++ [((am 3), .inl (gI G, 7, .inl (sF S)))])) (c_X6_needs (kl K) G o am (sP S) la (nI (sL S)) tk be an va bd (sN S) k (by omega) ) gX6_of_X6_needs rfl rfl rfl ⟨rfl, by decide, by decide, rfl⟩ ⟨Nat.le_of_ble_eq_true rfl, Nat.le_of_ble_eq_true rfl⟩ ⟨Nat.zero_le _, Nat.zero_le _⟩ rfl (by decide) (ci := 5) 0 rfl rfl rfl rfl rfl (Nat.le_of_ble_eq_true rfl) dX6_of_62 (fun _ => rfl) (fun zu9 zk9 => ?_)
        refine j_top (needF (sN S) k) rfl ?_
        have ze : (sp_of (nI k) 5 S) = (needF (sN S) k, S) := by unfold sp_of; simp [isP_eq hI, bI_t, bI_f, zc1, hkc, zc2]
        exact fin () _ _ _ _ dX6_of_65 rfl (by rw [ze] <;> rfl) (by rw [ze] <;> rfl) trivial
      · skip
        refine j_iload_n 26 cx 2 dX6_of_26 rfl ?_
        refine j_tableIn 27 cx 66 (6) dX6_of_27 rfl (by decide) (by decide) (by decide) rfl (by decide) ?_
        refine j_aload_n 66 cx 0 dX6_of_66 rfl ?_
        refine j_iload_n 67 cx 1 dX6_of_67 rfl ?_
        refine j_callV_i 68 cx 1 [0, 1] [.int (nI k)] (fun _ => wMO o am (sP S) la (nI (sL S)) tk be an va bd ++ ([((am 0), .inl (gI G, 51, .inl (mm (sN S))))] ++ [((am 3), .inl (gI G, 7, .inl (sF S)))])) (c_X6_gives (kl K) G o am (sP S) la (nI (sL S)) tk be an va bd (sN S) k hI (by omega) ) gX6_of_X6_gives rfl rfl rfl ⟨rfl, by decide, by decide, rfl⟩ ⟨Nat.le_of_ble_eq_true rfl, Nat.le_of_ble_eq_true rfl⟩ ⟨Nat.zero_le _, Nat.zero_le _⟩ rfl (by decide) (ci := 5) 0 rfl rfl rfl rfl rfl (Nat.le_of_ble_eq_true rfl) dX6_of_68 (fun _ => rfl) (fun zu10 zk10 => ?_)
        refine j_top (giveF (sN S) k) rfl ?_
        have ze : (sp_of (nI k) 6 S) = (giveF (sN S) k, S) := by unfold sp_of; simp [isP_eq hI, bI_t, bI_f, zc1, hkc, zc2]
        exact fin () _ _ _ _ dX6_of_71 rfl (by rw [ze] <;> rfl) (by rw [ze] <;> rfl) trivial
      · skip
        refine j_iload_n 26 cx 2 dX6_of_26 rfl ?_
        refine j_tableIn 27 cx 72 (7) dX6_of_27 rfl (by decide) (by decide) (by decide) rfl (by decide) ?_
        refine j_aload_n 72 cx 0 dX6_of_72 rfl ?_
        refine j_iload_n 73 cx 1 dX6_of_73 rfl ?_
        refine j_callV_i 74 cx 1 [0, 1] [.int (nI k)] (fun _ => wMO o am (sP S) la (nI (sL S)) tk be an va bd ++ ([((am 0), .inl (gI G, 51, .inl (mm (sN S))))] ++ [((am 3), .inl (gI G, 7, .inl (sF S)))])) (c_X6_calls (kl K) G o am (sP S) la (nI (sL S)) tk be an va bd (sN S) k hI (by omega) ) gX6_of_X6_calls rfl rfl rfl ⟨rfl, by decide, by decide, rfl⟩ ⟨Nat.le_of_ble_eq_true rfl, Nat.le_of_ble_eq_true rfl⟩ ⟨Nat.zero_le _, Nat.zero_le _⟩ rfl (by decide) (ci := 5) 0 rfl rfl rfl rfl rfl (Nat.le_of_ble_eq_true rfl) dX6_of_74 (fun _ => rfl) (fun zu11 zk11 => ?_)
        refine j_top (callF (sN S) k) rfl ?_
        have ze : (sp_of (nI k) 7 S) = (callF (sN S) k, S) := by unfold sp_of; simp [isP_eq hI, bI_t, bI_f, zc1, hkc, zc2]
        exact fin () _ _ _ _ dX6_of_77 rfl (by rw [ze] <;> rfl) (by rw [ze] <;> rfl) trivial
      · skip
        refine j_iload_n 26 cx 2 dX6_of_26 rfl ?_
        refine j_tableIn 27 cx 78 (8) dX6_of_27 rfl (by decide) (by decide) (by decide) rfl (by decide) ?_
        refine j_bipush 78 cx 100 dX6_of_78 (by decide) ?_
        refine j_aload_n 80 cx 0 dX6_of_80 rfl ?_
        refine j_iload_n 81 cx 1 dX6_of_81 rfl ?_
        refine j_callV_i 82 cx 1 [0, 1] [.int (nI k)] (fun _ => wMO o am (sP S) la (nI (sL S)) tk be an va bd ++ ([((am 0), .inl (gI G, 51, .inl (mm (sN S))))] ++ [((am 3), .inl (gI G, 7, .inl (sF S)))])) (c_X6_tires (kl K) G o am (sP S) la (nI (sL S)) tk be an va bd (sN S) k (by omega) ) gX6_of_X6_tires rfl rfl rfl ⟨rfl, by decide, by decide, rfl⟩ ⟨Nat.le_of_ble_eq_true rfl, Nat.le_of_ble_eq_true rfl⟩ ⟨Nat.zero_le _, Nat.zero_le _⟩ rfl (by decide) (ci := 5) 0 rfl rfl rfl rfl rfl (Nat.le_of_ble_eq_true rfl) dX6_of_82 (fun _ => rfl) (fun zu12 zk12 => ?_)
        refine j_top (kTires ((sN S) 2 k)) rfl ?_
        refine j_iadd 85 cx dX6_of_85 ?_
        have ze : (sp_of (nI k) 8 S) = (100 + (kTires ((sN S) 2 k)), S) := by unfold sp_of; simp [isP_eq hI, bI_t, bI_f, zc1, hkc, zc2]
        exact fin () _ _ _ _ dX6_of_86 rfl (by rw [ze] <;> rfl) (by rw [ze] <;> rfl) trivial
      · skip
        refine j_iload_n 26 cx 2 dX6_of_26 rfl ?_
        refine j_tableIn 27 cx 87 (9) dX6_of_27 rfl (by decide) (by decide) (by decide) rfl (by decide) ?_
        refine j_aload_n 87 cx 0 dX6_of_87 rfl ?_
        refine j_iload_n 88 cx 1 dX6_of_88 rfl ?_
        refine j_callV_i 89 cx 1 [0, 1] [.int (nI k)] (fun _ => wMO o am (sP S) la (nI (sL S)) tk be an va bd ++ ([((am 0), .inl (gI G, 51, .inl (mm (sN S))))] ++ [((am 3), .inl (gI G, 7, .inl (sF S)))])) (c_X6_isDone (kl K) G o am (sP S) la (nI (sL S)) tk be an va bd (sN S) k (by omega) ) gX6_of_X6_isDone rfl rfl rfl ⟨rfl, by decide, by decide, rfl⟩ ⟨Nat.le_of_ble_eq_true rfl, Nat.le_of_ble_eq_true rfl⟩ ⟨Nat.zero_le _, Nat.zero_le _⟩ rfl (by decide) (ci := 5) 0 rfl rfl rfl rfl rfl (Nat.le_of_ble_eq_true rfl) dX6_of_89 (fun _ => rfl) (fun zu13 zk13 => ?_)
        refine j_top (bI (done (sN S) k)) rfl ?_
        refine j_ifB_eq 92 cx 99 dX6_of_92 (by decide) (fun zc3 => ?_) (fun zc3 => ?_)
        · skip
          refine j_iconst 99 cx 0 dX6_of_99 (by decide) ?_
          have ze : (sp_of (nI k) 9 S) = (0, S) := by unfold sp_of; simp [isP_eq hI, bI_t, bI_f, zc1, hkc, zc2, zc3]
          exact fin () _ _ _ _ dX6_of_100 rfl (by rw [ze] <;> rfl) (by rw [ze] <;> rfl) trivial
        · skip
          refine j_iconst 95 cx 1 dX6_of_95 (by decide) ?_
          refine j_goto 96 cx 100 dX6_of_96 (by decide) ?_
          have ze : (sp_of (nI k) 9 S) = (1, S) := by unfold sp_of; simp [isP_eq hI, bI_t, bI_f, zc1, hkc, zc2, zc3]
          exact fin () _ _ _ _ dX6_of_100 rfl (by rw [ze] <;> rfl) (by rw [ze] <;> rfl) trivial
    · skip
      refine j_aload_n 19 cx 0 dX6_of_19 rfl ?_
      refine j_ldc 20 cx (v := -1000000001) (List.mem_of_getElem? (i := 1) rfl) dX6_of_20 ?_
      refine j_callV_i 22 cx 1 [0, 2] [.int (fcode 0)] (fun _ => wMO o am (sP S) la (nI (sL S)) tk be an va bd ++ ([((am 0), .inl (gI G, 51, .inl (mm (sN S))))] ++ [((am 3), .inl (gI G, 7, .inl (upd (sF S) 0 ((sF S) 0 + 1))))])) (c_X6_finds (kl K) G o am (sP S) la (nI (sL S)) tk be an va bd (sF S) 0 (by decide)) gX6_of_X6_finds rfl rfl rfl ⟨rfl, by decide, by decide, rfl⟩ ⟨Nat.le_of_ble_eq_true rfl, Nat.le_of_ble_eq_true rfl⟩ ⟨Nat.zero_le _, Nat.zero_le _⟩ rfl (by decide) (ci := 5) 0 rfl rfl rfl rfl rfl (Nat.le_of_ble_eq_true rfl) dX6_of_22 (fun _ => rfl) (fun zu14 zk14 => ?_)
      refine j_top (fcode 0) rfl ?_
      have ze : (sp_of (nI k) w S) = bad S 0 := by unfold sp_of; simp [isP_eq hI, bI_t, bI_f, zc1, hkc, zc2, ne_of_in (z := 0) zc2 (by decide), ne_of_in (z := 1) zc2 (by decide), ne_of_in (z := 2) zc2 (by decide), ne_of_in (z := 3) zc2 (by decide), ne_of_in (z := 4) zc2 (by decide), ne_of_in (z := 5) zc2 (by decide), ne_of_in (z := 6) zc2 (by decide), ne_of_in (z := 7) zc2 (by decide), ne_of_in (z := 8) zc2 (by decide), ne_of_in (z := 9) zc2 (by decide)]
      exact fin () _ _ _ _ dX6_of_25 rfl (by rw [ze] <;> rfl) (by rw [ze] <;> rfl) trivial
set_option maxRecDepth 100000 in
set_option maxHeartbeats 4000000 in
theorem c_X6_left (l : Launch) (G : pG) (o : Nat) (am : Nat → Nat) (S : St) (la tk be an va : Int32) (bd : Bool) (ω : Nu) (hI : Inv (sN S)) (hD : dyN (sN S) ≤ 9999) (p : Int32) (hLn : ∀ q, 0 ≤ ((sN S) 3 q).toInt ∧ ((sN S) 3 q).toInt ≤ 99) : KI l G yX6_left wsX6_left ({ frames := 2, cells := 0, slots := 0, locals := 44 } : Room) [.ref o, .int p] (wMO o am (sP S) la (nI (sL S)) tk be an va bd ++ ([((am 0), .inl (gI G, 51, .inl (mm (sN S))))] ++ [((am 3), .inl (gI G, 7, .inl (sF S)))])) (S := Unit) (fun _ => True) (fun u => (sp_left p S).1) (fun u => wMO o am (sP S) la (nI (sL S)) tk be an va bd ++ ([((am 0), .inl (gI G, 51, .inl (mm (sN (sp_left p S).2))))] ++ [((am 3), .inl (gI G, 7, .inl (sF (sp_left p S).2)))])) := by
  refine ki_of [(0, .ref o), (1, .int p)] (own := RX6) (cc := cX6_left) (nL := 2) (by decide +kernel) rfl rfl (Nat.le_of_ble_eq_true rfl) rfl (fun _ => rfl) (fun K cx fin => ?_)
  refine j_aload_n 0 cx 0 dX6_left_0 rfl ?_
  refine j_iload_n 1 cx 1 dX6_left_1 rfl ?_
  refine j_callV_i 2 cx 1 [0, 1] [.int p] (fun _ => wMO o am (sP S) la (nI (sL S)) tk be an va bd ++ ([((am 0), .inl (gI G, 51, .inl (mm (sN S))))] ++ [((am 3), .inl (gI G, 7, .inl (sF S)))])) (c_X6_isPart (kl K) G o am (sP S) la (nI (sL S)) tk be an va bd (sN S) p hI ) gX6_left_X6_isPart rfl rfl rfl ⟨rfl, by decide, by decide, rfl⟩ ⟨Nat.le_of_ble_eq_true rfl, Nat.le_of_ble_eq_true rfl⟩ ⟨Nat.zero_le _, Nat.zero_le _⟩ rfl (by decide) (ci := 5) 0 rfl rfl rfl rfl rfl (Nat.le_of_ble_eq_true rfl) dX6_left_2 (fun _ => rfl) (fun zu1 zk1 => ?_)
  refine j_top (bI (inI p 0 (nI (szN (sN S)) - 1))) rfl ?_
  refine j_ifB_eq 5 cx 30 dX6_left_5 (by decide) (fun zc1 => ?_) (fun zc1 => ?_)
  · skip
    refine j_aload_n 30 cx 0 dX6_left_30 rfl ?_
    refine j_ldc 31 cx (v := -1000000001) (List.mem_of_getElem? (i := 1) rfl) dX6_left_31 ?_
    refine j_callV_i 33 cx 1 [0, 2] [.int (fcode 0)] (fun _ => wMO o am (sP S) la (nI (sL S)) tk be an va bd ++ ([((am 0), .inl (gI G, 51, .inl (mm (sN S))))] ++ [((am 3), .inl (gI G, 7, .inl (upd (sF S) 0 ((sF S) 0 + 1))))])) (c_X6_finds (kl K) G o am (sP S) la (nI (sL S)) tk be an va bd (sF S) 0 (by decide)) gX6_left_X6_finds rfl rfl rfl ⟨rfl, by decide, by decide, rfl⟩ ⟨Nat.le_of_ble_eq_true rfl, Nat.le_of_ble_eq_true rfl⟩ ⟨Nat.zero_le _, Nat.zero_le _⟩ rfl (by decide) (ci := 5) 0 rfl rfl rfl rfl rfl (Nat.le_of_ble_eq_true rfl) dX6_left_33 (fun _ => rfl) (fun zu2 zk2 => ?_)
    refine j_top (fcode 0) rfl ?_
    have ze : (sp_left p S) = bad S 0 := by unfold sp_left; simp [isP_eq hI, bI_t, bI_f, zc1]
    exact fin () _ _ _ _ dX6_left_36 rfl (by rw [ze] <;> rfl) (by rw [ze] <;> rfl) trivial
  · skip
    obtain ⟨k, hk, rfl⟩ := in_n (by have := hI.sz8; omega) zc1
    have h8 := hI.sz8
    have hkc : (nI k).toNatClampNeg = k := nI_clamp (by omega)
    refine j_aload_n 8 cx 0 dX6_left_8 rfl ?_
    refine j_iload_n 9 cx 1 dX6_left_9 rfl ?_
    refine j_callV_i 10 cx 1 [0, 1] [.int (nI k)] (fun _ => wMO o am (sP S) la (nI (sL S)) tk be an va bd ++ ([((am 0), .inl (gI G, 51, .inl (mm (sN S))))] ++ [((am 3), .inl (gI G, 7, .inl (sF S)))])) (c_X6_needs (kl K) G o am (sP S) la (nI (sL S)) tk be an va bd (sN S) k (by omega) ) gX6_left_X6_needs rfl rfl rfl ⟨rfl, by decide, by decide, rfl⟩ ⟨Nat.le_of_ble_eq_true rfl, Nat.le_of_ble_eq_true rfl⟩ ⟨Nat.zero_le _, Nat.zero_le _⟩ rfl (by decide) (ci := 5) 0 rfl rfl rfl rfl rfl (Nat.le_of_ble_eq_true rfl) dX6_left_10 (fun _ => rfl) (fun zu3 zk3 => ?_)
    refine j_top (needF (sN S) k) rfl ?_
    refine j_aload_n 13 cx 0 dX6_left_13 rfl ?_
    refine j_iload_n 14 cx 1 dX6_left_14 rfl ?_
    refine j_iconst 15 cx 2 dX6_left_15 (by decide) ?_
    refine j_callV_i 16 cx 2 [0, 1] [.int (nI k), .int 2] (fun _ => wMO o am (sP S) la (nI (sL S)) tk be an va bd ++ ([((am 0), .inl (gI G, 51, .inl (mm (sN S))))] ++ [((am 3), .inl (gI G, 7, .inl (sF S)))])) (c_X6_it (kl K) G o am (sP S) la (nI (sL S)) tk be an va bd (sN S) k 2 (by omega) (by omega) ) gX6_left_X6_it rfl rfl rfl ⟨rfl, by decide, by decide, rfl⟩ ⟨Nat.le_of_ble_eq_true rfl, Nat.le_of_ble_eq_true rfl⟩ ⟨Nat.zero_le _, Nat.zero_le _⟩ rfl (by decide) (ci := 5) 0 rfl rfl rfl rfl rfl (Nat.le_of_ble_eq_true rfl) dX6_left_16 (fun _ => rfl) (fun zu4 zk4 => ?_)
    refine j_top ((sN S) 4 k) rfl ?_
    refine j_isub 19 cx dX6_left_19 ?_
    refine j_iconst 20 cx 0 dX6_left_20 (by decide) ?_
    refine j_sipush 21 cx 9999 dX6_left_21 (by decide) ?_
    refine j_callS_i 24 cx 3 [] [.int ((needF (sN S) k) - ((sN S) 4 k)), .int 0, .int 9999] (fun _ => wMO o am (sP S) la (nI (sL S)) tk be an va bd ++ ([((am 0), .inl (gI G, 51, .inl (mm (sN S))))] ++ [((am 3), .inl (gI G, 7, .inl (sF S)))])) (c_X6_held (kl K) G ((needF (sN S) k) - ((sN S) 4 k)) 0 9999) gX6_left_X6_held rfl rfl rfl ⟨by decide, by decide, rfl⟩ ⟨Nat.le_of_ble_eq_true rfl, Nat.le_of_ble_eq_true rfl⟩ ⟨Nat.zero_le _, Nat.zero_le _⟩ rfl (by decide) rfl rfl (Nat.le_of_ble_eq_true rfl) dX6_left_24 (fun _ => rfl) (fun zu5 zk5 => ?_)
    refine j_top (hd ((needF (sN S) k) - ((sN S) 4 k)) 0 9999) rfl ?_
    refine j_top (mx0 (needF (sN S) k - (sN S) 4 k)) (left_eq hI hLn k) ?_
    refine j_goto 27 cx 36 dX6_left_27 (by decide) ?_
    have ze : (sp_left (nI k) S) = (mx0 (needF (sN S) k - (sN S) 4 k), S) := by unfold sp_left; simp [isP_eq hI, bI_t, bI_f, zc1, hkc]
    exact fin () _ _ _ _ dX6_left_36 rfl (by rw [ze] <;> rfl) (by rw [ze] <;> rfl) trivial
set_option maxRecDepth 100000 in
set_option maxHeartbeats 4000000 in
theorem c_X6_turn (l : Launch) (G : pG) (o : Nat) (am : Nat → Nat) (S : St) (la tk be an va : Int32) (bd : Bool) (ω : Nu) (hI : Inv (sN S)) (hD : dyN (sN S) ≤ 9999) (p k0 : Int32) : KI l G yX6_turn wsX6_turn ({ frames := 2, cells := 0, slots := 0, locals := 44 } : Room) [.ref o, .int p, .int k0] (wMO o am (sP S) la (nI (sL S)) tk be an va bd ++ ([((am 0), .inl (gI G, 51, .inl (mm (sN S))))] ++ [((am 3), .inl (gI G, 7, .inl (sF S)))])) (S := Unit) (fun _ => True) (fun u => (sp_turn p k0 S).1) (fun u => wMO o am (sP S) la (nI (sL S)) tk be an va bd ++ ([((am 0), .inl (gI G, 51, .inl (mm (sN (sp_turn p k0 S).2))))] ++ [((am 3), .inl (gI G, 7, .inl (sF (sp_turn p k0 S).2)))])) := by
  refine ki_of [(0, .ref o), (1, .int p), (2, .int k0)] (own := RX6) (cc := cX6_turn) (nL := 3) (by decide +kernel) rfl rfl (Nat.le_of_ble_eq_true rfl) rfl (fun _ => rfl) (fun K cx fin => ?_)
  refine j_aload_n 0 cx 0 dX6_turn_0 rfl ?_
  refine j_iload_n 1 cx 1 dX6_turn_1 rfl ?_
  refine j_callV_i 2 cx 1 [0, 1] [.int p] (fun _ => wMO o am (sP S) la (nI (sL S)) tk be an va bd ++ ([((am 0), .inl (gI G, 51, .inl (mm (sN S))))] ++ [((am 3), .inl (gI G, 7, .inl (sF S)))])) (c_X6_isPart (kl K) G o am (sP S) la (nI (sL S)) tk be an va bd (sN S) p hI ) gX6_turn_X6_isPart rfl rfl rfl ⟨rfl, by decide, by decide, rfl⟩ ⟨Nat.le_of_ble_eq_true rfl, Nat.le_of_ble_eq_true rfl⟩ ⟨Nat.zero_le _, Nat.zero_le _⟩ rfl (by decide) (ci := 5) 0 rfl rfl rfl rfl rfl (Nat.le_of_ble_eq_true rfl) dX6_turn_2 (fun _ => rfl) (fun zu1 zk1 => ?_)
  refine j_top (bI (inI p 0 (nI (szN (sN S)) - 1))) rfl ?_
  refine j_ifB_eq 5 cx 32 dX6_turn_5 (by decide) (fun zc1 => ?_) (fun zc1 => ?_)
  · skip
    refine j_aload_n 32 cx 0 dX6_turn_32 rfl ?_
    refine j_ldc 33 cx (v := -1000000001) (List.mem_of_getElem? (i := 1) rfl) dX6_turn_33 ?_
    refine j_callV_i 35 cx 1 [0, 2] [.int (fcode 0)] (fun _ => wMO o am (sP S) la (nI (sL S)) tk be an va bd ++ ([((am 0), .inl (gI G, 51, .inl (mm (sN S))))] ++ [((am 3), .inl (gI G, 7, .inl (upd (sF S) 0 ((sF S) 0 + 1))))])) (c_X6_finds (kl K) G o am (sP S) la (nI (sL S)) tk be an va bd (sF S) 0 (by decide)) gX6_turn_X6_finds rfl rfl rfl ⟨rfl, by decide, by decide, rfl⟩ ⟨Nat.le_of_ble_eq_true rfl, Nat.le_of_ble_eq_true rfl⟩ ⟨Nat.zero_le _, Nat.zero_le _⟩ rfl (by decide) (ci := 5) 0 rfl rfl rfl rfl rfl (Nat.le_of_ble_eq_true rfl) dX6_turn_35 (fun _ => rfl) (fun zu2 zk2 => ?_)
    refine j_top (fcode 0) rfl ?_
    have ze : (sp_turn p k0 S) = bad S 0 := by unfold sp_turn; simp [isP_eq hI, bI_t, bI_f, zc1]
    exact fin () _ _ _ _ dX6_turn_38 rfl (by rw [ze] <;> rfl) (by rw [ze] <;> rfl) trivial
  · skip
    obtain ⟨k, hk, rfl⟩ := in_n (by have := hI.sz8; omega) zc1
    have h8 := hI.sz8
    have hkc : (nI k).toNatClampNeg = k := nI_clamp (by omega)
    refine j_iload_n 8 cx 2 dX6_turn_8 rfl ?_
    refine j_i2l 9 cx dX6_turn_9 ?_
    refine j_iconst 10 cx 0 dX6_turn_10 (by decide) ?_
    refine j_iconst 11 cx 5 dX6_turn_11 (by decide) ?_
    refine j_callS_i 12 cx 3 [] [.long (k0.toInt64), .int 0, .int 5] (fun _ => wMO o am (sP S) la (nI (sL S)) tk be an va bd ++ ([((am 0), .inl (gI G, 51, .inl (mm (sN S))))] ++ [((am 3), .inl (gI G, 7, .inl (sF S)))])) (c_X6_in (kl K) G (k0.toInt64) 0 5) gX6_turn_X6_in rfl rfl rfl ⟨by decide, by decide, rfl⟩ ⟨Nat.le_of_ble_eq_true rfl, Nat.le_of_ble_eq_true rfl⟩ ⟨Nat.zero_le _, Nat.zero_le _⟩ rfl (by decide) rfl rfl (Nat.le_of_ble_eq_true rfl) dX6_turn_12 (fun _ => rfl) (fun zu3 zk3 => ?_)
    refine j_top (bI (inL (k0.toInt64) 0 5)) rfl ?_
    refine j_top (bI (inI k0 0 5)) (congrArg bI (inL_i k0 0 5)) ?_
    refine j_ifB_eq 15 cx 32 dX6_turn_15 (by decide) (fun zc2 => ?_) (fun zc2 => ?_)
    · skip
      refine j_aload_n 32 cx 0 dX6_turn_32 rfl ?_
      refine j_ldc 33 cx (v := -1000000001) (List.mem_of_getElem? (i := 1) rfl) dX6_turn_33 ?_
      refine j_callV_i 35 cx 1 [0, 2] [.int (fcode 0)] (fun _ => wMO o am (sP S) la (nI (sL S)) tk be an va bd ++ ([((am 0), .inl (gI G, 51, .inl (mm (sN S))))] ++ [((am 3), .inl (gI G, 7, .inl (upd (sF S) 0 ((sF S) 0 + 1))))])) (c_X6_finds (kl K) G o am (sP S) la (nI (sL S)) tk be an va bd (sF S) 0 (by decide)) gX6_turn_X6_finds rfl rfl rfl ⟨rfl, by decide, by decide, rfl⟩ ⟨Nat.le_of_ble_eq_true rfl, Nat.le_of_ble_eq_true rfl⟩ ⟨Nat.zero_le _, Nat.zero_le _⟩ rfl (by decide) (ci := 5) 0 rfl rfl rfl rfl rfl (Nat.le_of_ble_eq_true rfl) dX6_turn_35 (fun _ => rfl) (fun zu4 zk4 => ?_)
      refine j_top (fcode 0) rfl ?_
      have ze : (sp_turn (nI k) k0 S) = bad S 0 := by unfold sp_turn; simp [isP_eq hI, bI_t, bI_f, zc1, hkc, zc2]
      exact fin () _ _ _ _ dX6_turn_38 rfl (by rw [ze] <;> rfl) (by rw [ze] <;> rfl) trivial
    · skip
      refine j_aload_n 18 cx 0 dX6_turn_18 rfl ?_
      refine j_bipush 19 cx 11 dX6_turn_19 (by decide) ?_
      refine j_iconst 21 cx 5 dX6_turn_21 (by decide) ?_
      refine j_iload_n 22 cx 1 dX6_turn_22 rfl ?_
      refine j_imul 23 cx dX6_turn_23 ?_
      refine j_top (nI (5 * k)) (pk_mul 5 k) ?_
      refine j_iadd 24 cx dX6_turn_24 ?_
      refine j_top (nI (11 + 5 * k)) (nI_add 11 (5 * k)) ?_
      refine j_iload_n 25 cx 2 dX6_turn_25 rfl ?_
      refine j_callV_i 26 cx 2 [0, 1] [.int (nI (11 + 5 * k)), .int k0] (fun _ => wMO o am (sP S) la (nI (sL S)) tk be an va bd ++ ([((am 0), .inl (gI G, 51, .inl (upd (mm (sN S)) (11 + 5 * k) k0)))] ++ [((am 3), .inl (gI G, 7, .inl (sF S)))])) (c_X6_becomes (kl K) G o am (sP S) la (nI (sL S)) tk be an va bd (mm (sN S)) (11 + 5 * k) k0 (by omega)) gX6_turn_X6_becomes rfl rfl rfl ⟨rfl, by decide, by decide, rfl⟩ ⟨Nat.le_of_ble_eq_true rfl, Nat.le_of_ble_eq_true rfl⟩ ⟨Nat.zero_le _, Nat.zero_le _⟩ rfl (by decide) (ci := 5) 0 rfl rfl rfl rfl rfl (Nat.le_of_ble_eq_true rfl) dX6_turn_26 (fun _ => rfl) (fun zu5 zk5 => ?_)
      refine j_ws (wMO o am (sP S) la (nI (sL S)) tk be an va bd ++ ([((am 0), .inl (gI G, 51, .inl (mm (up2 (sN S) 2 k k0))))] ++ [((am 3), .inl (gI G, 7, .inl (sF S)))])) (congrArg (fun zf : Nat → Int32 => wMO o am (sP S) la (nI (sL S)) tk be an va bd ++ ([((am 0), .inl (gI G, 51, .inl zf))] ++ [((am 3), .inl (gI G, 7, .inl (sF S)))])) (mm_uit _ k (w := 0) _ (by omega))) ?_
      refine j_top ((mm (sN S)) (11 + 5 * k)) rfl ?_
      refine j_top ((sN S) 2 k) (mm_it _ k (w := 0) (by omega)) ?_
      refine j_goto 29 cx 38 dX6_turn_29 (by decide) ?_
      have ze : (sp_turn (nI k) k0 S) = ((sN S) 2 k, stN S (up2 (sN S) 2 k k0)) := by unfold sp_turn; simp [isP_eq hI, bI_t, bI_f, zc1, hkc, zc2]
      exact fin () _ _ _ _ dX6_turn_38 rfl (by rw [ze] <;> rfl) (by rw [ze] <;> rfl) trivial
set_option maxRecDepth 100000 in
set_option maxHeartbeats 4000000 in
theorem c_X6_set (l : Launch) (G : pG) (o : Nat) (am : Nat → Nat) (S : St) (la tk be an va : Int32) (bd : Bool) (ω : Nu) (hI : Inv (sN S)) (hD : dyN (sN S) ≤ 9999) (p w v : Int32) : KI l G yX6_set wsX6_set ({ frames := 2, cells := 0, slots := 0, locals := 44 } : Room) [.ref o, .int p, .int w, .int v] (wMO o am (sP S) la (nI (sL S)) tk be an va bd ++ ([((am 0), .inl (gI G, 51, .inl (mm (sN S))))] ++ [((am 3), .inl (gI G, 7, .inl (sF S)))])) (S := Unit) (fun _ => True) (fun u => (sp_set p w v S).1) (fun u => wMO o am (sP S) la (nI (sL S)) tk be an va bd ++ ([((am 0), .inl (gI G, 51, .inl (mm (sN (sp_set p w v S).2))))] ++ [((am 3), .inl (gI G, 7, .inl (sF (sp_set p w v S).2)))])) := by
  refine ki_of [(0, .ref o), (1, .int p), (2, .int w), (3, .int v)] (own := RX6) (cc := cX6_set) (nL := 5) (by decide +kernel) rfl rfl (Nat.le_of_ble_eq_true rfl) rfl (fun _ => rfl) (fun K cx fin => ?_)
  refine j_aload_n 0 cx 0 dX6_set_0 rfl ?_
  refine j_iload_n 1 cx 1 dX6_set_1 rfl ?_
  refine j_callV_i 2 cx 1 [0, 1] [.int p] (fun _ => wMO o am (sP S) la (nI (sL S)) tk be an va bd ++ ([((am 0), .inl (gI G, 51, .inl (mm (sN S))))] ++ [((am 3), .inl (gI G, 7, .inl (sF S)))])) (c_X6_isPart (kl K) G o am (sP S) la (nI (sL S)) tk be an va bd (sN S) p hI ) gX6_set_X6_isPart rfl rfl rfl ⟨rfl, by decide, by decide, rfl⟩ ⟨Nat.le_of_ble_eq_true rfl, Nat.le_of_ble_eq_true rfl⟩ ⟨Nat.zero_le _, Nat.zero_le _⟩ rfl (by decide) (ci := 5) 0 rfl rfl rfl rfl rfl (Nat.le_of_ble_eq_true rfl) dX6_set_2 (fun _ => rfl) (fun zu1 zk1 => ?_)
  refine j_top (bI (inI p 0 (nI (szN (sN S)) - 1))) rfl ?_
  refine j_ifB_eq 5 cx 58 dX6_set_5 (by decide) (fun zc1 => ?_) (fun zc1 => ?_)
  · skip
    refine j_iconst 58 cx 0 dX6_set_58 (by decide) ?_
    refine j_istore 59 cx [(4, .int 0), (0, .ref o), (1, .int p), (2, .int w), (3, .int v)] dX6_set_59 (by decide) rfl ?_
    refine j_iload 61 cx 0 dX6_set_61 rfl ?_
    refine j_if_eq_T 63 cx 82 dX6_set_63 (by decide) (by decide) ?_
    refine j_aload_n 82 cx 1 dX6_set_82 rfl ?_
    refine j_ldc 83 cx (v := -1000000001) (List.mem_of_getElem? (i := 1) rfl) dX6_set_83 ?_
    refine j_callV_i 85 cx 1 [0, 2] [.int (fcode 0)] (fun _ => wMO o am (sP S) la (nI (sL S)) tk be an va bd ++ ([((am 0), .inl (gI G, 51, .inl (mm (sN S))))] ++ [((am 3), .inl (gI G, 7, .inl (upd (sF S) 0 ((sF S) 0 + 1))))])) (c_X6_finds (kl K) G o am (sP S) la (nI (sL S)) tk be an va bd (sF S) 0 (by decide)) gX6_set_X6_finds rfl rfl rfl ⟨rfl, by decide, by decide, rfl⟩ ⟨Nat.le_of_ble_eq_true rfl, Nat.le_of_ble_eq_true rfl⟩ ⟨Nat.zero_le _, Nat.zero_le _⟩ rfl (by decide) (ci := 5) 0 rfl rfl rfl rfl rfl (Nat.le_of_ble_eq_true rfl) dX6_set_85 (fun _ => rfl) (fun zu2 zk2 => ?_)
    refine j_top (fcode 0) rfl ?_
    have ze : (sp_set p w v S) = bad S 0 := by unfold sp_set; simp [isP_eq hI, bI_t, bI_f, zc1]
    exact fin () _ _ _ _ dX6_set_88 rfl (by rw [ze] <;> rfl) (by rw [ze] <;> rfl) trivial
  · skip
    obtain ⟨k, hk, rfl⟩ := in_n (by have := hI.sz8; omega) zc1
    have h8 := hI.sz8
    have hkc : (nI k).toNatClampNeg = k := nI_clamp (by omega)
    refine j_iload_n 8 cx 2 dX6_set_8 rfl ?_
    refine j_i2l 9 cx dX6_set_9 ?_
    refine j_iconst 10 cx 1 dX6_set_10 (by decide) ?_
    refine j_iconst 11 cx 4 dX6_set_11 (by decide) ?_
    refine j_callS_i 12 cx 3 [] [.long (w.toInt64), .int 1, .int 4] (fun _ => wMO o am (sP S) la (nI (sL S)) tk be an va bd ++ ([((am 0), .inl (gI G, 51, .inl (mm (sN S))))] ++ [((am 3), .inl (gI G, 7, .inl (sF S)))])) (c_X6_in (kl K) G (w.toInt64) 1 4) gX6_set_X6_in rfl rfl rfl ⟨by decide, by decide, rfl⟩ ⟨Nat.le_of_ble_eq_true rfl, Nat.le_of_ble_eq_true rfl⟩ ⟨Nat.zero_le _, Nat.zero_le _⟩ rfl (by decide) rfl rfl (Nat.le_of_ble_eq_true rfl) dX6_set_12 (fun _ => rfl) (fun zu3 zk3 => ?_)
    refine j_top (bI (inL (w.toInt64) 1 4)) rfl ?_
    refine j_top (bI (inI w 1 4)) (congrArg bI (inL_i w 1 4)) ?_
    refine j_ifB_eq 15 cx 58 dX6_set_15 (by decide) (fun zc2 => ?_) (fun zc2 => ?_)
    · skip
      refine j_iconst 58 cx 0 dX6_set_58 (by decide) ?_
      refine j_istore 59 cx [(4, .int 0), (0, .ref o), (1, .int (nI k)), (2, .int w), (3, .int v)] dX6_set_59 (by decide) rfl ?_
      refine j_iload 61 cx 0 dX6_set_61 rfl ?_
      refine j_if_eq_T 63 cx 82 dX6_set_63 (by decide) (by decide) ?_
      refine j_aload_n 82 cx 1 dX6_set_82 rfl ?_
      refine j_ldc 83 cx (v := -1000000001) (List.mem_of_getElem? (i := 1) rfl) dX6_set_83 ?_
      refine j_callV_i 85 cx 1 [0, 2] [.int (fcode 0)] (fun _ => wMO o am (sP S) la (nI (sL S)) tk be an va bd ++ ([((am 0), .inl (gI G, 51, .inl (mm (sN S))))] ++ [((am 3), .inl (gI G, 7, .inl (upd (sF S) 0 ((sF S) 0 + 1))))])) (c_X6_finds (kl K) G o am (sP S) la (nI (sL S)) tk be an va bd (sF S) 0 (by decide)) gX6_set_X6_finds rfl rfl rfl ⟨rfl, by decide, by decide, rfl⟩ ⟨Nat.le_of_ble_eq_true rfl, Nat.le_of_ble_eq_true rfl⟩ ⟨Nat.zero_le _, Nat.zero_le _⟩ rfl (by decide) (ci := 5) 0 rfl rfl rfl rfl rfl (Nat.le_of_ble_eq_true rfl) dX6_set_85 (fun _ => rfl) (fun zu4 zk4 => ?_)
      refine j_top (fcode 0) rfl ?_
      have ze : (sp_set (nI k) w v S) = bad S 0 := by unfold sp_set; simp [isP_eq hI, bI_t, bI_f, zc1, hkc, zc2, ne_of_in (z := 1) zc2 (by decide), ne_of_in (z := 2) zc2 (by decide), ne_of_in (z := 3) zc2 (by decide), ne_of_in (z := 4) zc2 (by decide)]
      exact fin () _ _ _ _ dX6_set_88 rfl (by rw [ze] <;> rfl) (by rw [ze] <;> rfl) trivial
    · skip
      rcases in_14 zc2 with rfl | rfl | rfl | rfl
      · skip
        refine j_iload_n 18 cx 3 dX6_set_18 rfl ?_
        refine j_i2l 19 cx dX6_set_19 ?_
        refine j_iload_n 20 cx 2 dX6_set_20 rfl ?_
        refine j_iconst 21 cx 1 dX6_set_21 (by decide) ?_
        refine j_icmp_ne_F 22 cx 29 dX6_set_22 (by decide) (by decide) ?_
        refine j_iconst 25 cx 1 dX6_set_25 (by decide) ?_
        refine j_goto 26 cx 30 dX6_set_26 (by decide) ?_
        refine j_iload_n 30 cx 2 dX6_set_30 rfl ?_
        refine j_iconst 31 cx 2 dX6_set_31 (by decide) ?_
        refine j_icmp_eq_F 32 cx 40 dX6_set_32 (by decide) (by decide) ?_
        refine j_iload_n 35 cx 2 dX6_set_35 rfl ?_
        refine j_iconst 36 cx 3 dX6_set_36 (by decide) ?_
        refine j_icmp_ne_T 37 cx 46 dX6_set_37 (by decide) (by decide) ?_
        refine j_bipush 46 cx 99 dX6_set_46 (by decide) ?_
        refine j_callS_i 48 cx 3 [] [.long (v.toInt64), .int 1, .int 99] (fun _ => wMO o am (sP S) la (nI (sL S)) tk be an va bd ++ ([((am 0), .inl (gI G, 51, .inl (mm (sN S))))] ++ [((am 3), .inl (gI G, 7, .inl (sF S)))])) (c_X6_in (kl K) G (v.toInt64) 1 99) gX6_set_X6_in rfl rfl rfl ⟨by decide, by decide, rfl⟩ ⟨Nat.le_of_ble_eq_true rfl, Nat.le_of_ble_eq_true rfl⟩ ⟨Nat.zero_le _, Nat.zero_le _⟩ rfl (by decide) rfl rfl (Nat.le_of_ble_eq_true rfl) dX6_set_48 (fun _ => rfl) (fun zu5 zk5 => ?_)
        refine j_top (bI (inL (v.toInt64) 1 99)) rfl ?_
        refine j_top (bI (inI v 1 99)) (congrArg bI (inL_i v 1 99)) ?_
        refine j_ifB_eq 51 cx 58 dX6_set_51 (by decide) (fun zc3 => ?_) (fun zc3 => ?_)
        · skip
          refine j_iconst 58 cx 0 dX6_set_58 (by decide) ?_
          refine j_istore 59 cx [(4, .int 0), (0, .ref o), (1, .int (nI k)), (2, .int 1), (3, .int v)] dX6_set_59 (by decide) rfl ?_
          refine j_iload 61 cx 0 dX6_set_61 rfl ?_
          refine j_if_eq_T 63 cx 82 dX6_set_63 (by decide) (by decide) ?_
          refine j_aload_n 82 cx 1 dX6_set_82 rfl ?_
          refine j_ldc 83 cx (v := -1000000001) (List.mem_of_getElem? (i := 1) rfl) dX6_set_83 ?_
          refine j_callV_i 85 cx 1 [0, 2] [.int (fcode 0)] (fun _ => wMO o am (sP S) la (nI (sL S)) tk be an va bd ++ ([((am 0), .inl (gI G, 51, .inl (mm (sN S))))] ++ [((am 3), .inl (gI G, 7, .inl (upd (sF S) 0 ((sF S) 0 + 1))))])) (c_X6_finds (kl K) G o am (sP S) la (nI (sL S)) tk be an va bd (sF S) 0 (by decide)) gX6_set_X6_finds rfl rfl rfl ⟨rfl, by decide, by decide, rfl⟩ ⟨Nat.le_of_ble_eq_true rfl, Nat.le_of_ble_eq_true rfl⟩ ⟨Nat.zero_le _, Nat.zero_le _⟩ rfl (by decide) (ci := 5) 0 rfl rfl rfl rfl rfl (Nat.le_of_ble_eq_true rfl) dX6_set_85 (fun _ => rfl) (fun zu6 zk6 => ?_)
          refine j_top (fcode 0) rfl ?_
          have ze : (sp_set (nI k) 1 v S) = bad S 0 := by unfold sp_set; simp [isP_eq hI, bI_t, bI_f, zc1, hkc, zc2, zc3]
          exact fin () _ _ _ _ dX6_set_88 rfl (by rw [ze] <;> rfl) (by rw [ze] <;> rfl) trivial
        · skip
          refine j_iconst 54 cx 1 dX6_set_54 (by decide) ?_
          refine j_goto 55 cx 59 dX6_set_55 (by decide) ?_
          refine j_istore 59 cx [(4, .int 1), (0, .ref o), (1, .int (nI k)), (2, .int 1), (3, .int v)] dX6_set_59 (by decide) rfl ?_
          refine j_iload 61 cx 0 dX6_set_61 rfl ?_
          refine j_if_eq_F 63 cx 82 dX6_set_63 (by decide) (by decide) ?_
          refine j_aload_n 66 cx 1 dX6_set_66 rfl ?_
          refine j_bipush 67 cx 11 dX6_set_67 (by decide) ?_
          refine j_iconst 69 cx 5 dX6_set_69 (by decide) ?_
          refine j_iload_n 70 cx 2 dX6_set_70 rfl ?_
          refine j_imul 71 cx dX6_set_71 ?_
          refine j_top (nI (5 * k)) (pk_mul 5 k) ?_
          refine j_iadd 72 cx dX6_set_72 ?_
          refine j_top (nI (11 + 5 * k)) (nI_add 11 (5 * k)) ?_
          refine j_iload_n 73 cx 3 dX6_set_73 rfl ?_
          refine j_iadd 74 cx dX6_set_74 ?_
          refine j_top (nI (11 + 5 * k + 1)) (nI_add (11 + 5 * k) 1) ?_
          refine j_iload_n 75 cx 4 dX6_set_75 rfl ?_
          refine j_callV_i 76 cx 2 [0, 1] [.int (nI (11 + 5 * k + 1)), .int v] (fun _ => wMO o am (sP S) la (nI (sL S)) tk be an va bd ++ ([((am 0), .inl (gI G, 51, .inl (upd (mm (sN S)) (11 + 5 * k + 1) v)))] ++ [((am 3), .inl (gI G, 7, .inl (sF S)))])) (c_X6_becomes (kl K) G o am (sP S) la (nI (sL S)) tk be an va bd (mm (sN S)) (11 + 5 * k + 1) v (by omega)) gX6_set_X6_becomes rfl rfl rfl ⟨rfl, by decide, by decide, rfl⟩ ⟨Nat.le_of_ble_eq_true rfl, Nat.le_of_ble_eq_true rfl⟩ ⟨Nat.zero_le _, Nat.zero_le _⟩ rfl (by decide) (ci := 5) 0 rfl rfl rfl rfl rfl (Nat.le_of_ble_eq_true rfl) dX6_set_76 (fun _ => rfl) (fun zu7 zk7 => ?_)
          refine j_ws (wMO o am (sP S) la (nI (sL S)) tk be an va bd ++ ([((am 0), .inl (gI G, 51, .inl (mm (up2 (sN S) 3 k v))))] ++ [((am 3), .inl (gI G, 7, .inl (sF S)))])) (congrArg (fun zf : Nat → Int32 => wMO o am (sP S) la (nI (sL S)) tk be an va bd ++ ([((am 0), .inl (gI G, 51, .inl zf))] ++ [((am 3), .inl (gI G, 7, .inl (sF S)))])) (mm_uit _ k _ (by omega))) ?_
          refine j_top ((mm (sN S)) (11 + 5 * k + 1)) rfl ?_
          refine j_top ((sN S) 3 k) (mm_it _ k (by omega)) ?_
          refine j_goto 79 cx 88 dX6_set_79 (by decide) ?_
          have ze : (sp_set (nI k) 1 v S) = ((sN S) 3 k, stN S (up2 (sN S) 3 k v)) := by unfold sp_set; simp [isP_eq hI, bI_t, bI_f, zc1, hkc, zc2, zc3]
          exact fin () _ _ _ _ dX6_set_88 rfl (by rw [ze] <;> rfl) (by rw [ze] <;> rfl) trivial
      · skip
        refine j_iload_n 18 cx 3 dX6_set_18 rfl ?_
        refine j_i2l 19 cx dX6_set_19 ?_
        refine j_iload_n 20 cx 2 dX6_set_20 rfl ?_
        refine j_iconst 21 cx 1 dX6_set_21 (by decide) ?_
        refine j_icmp_ne_T 22 cx 29 dX6_set_22 (by decide) (by decide) ?_
        refine j_iconst 29 cx 0 dX6_set_29 (by decide) ?_
        refine j_iload_n 30 cx 2 dX6_set_30 rfl ?_
        refine j_iconst 31 cx 2 dX6_set_31 (by decide) ?_
        refine j_icmp_eq_T 32 cx 40 dX6_set_32 (by decide) (by decide) ?_
        refine j_sipush 40 cx 9999 dX6_set_40 (by decide) ?_
        refine j_goto 43 cx 48 dX6_set_43 (by decide) ?_
        refine j_callS_i 48 cx 3 [] [.long (v.toInt64), .int 0, .int 9999] (fun _ => wMO o am (sP S) la (nI (sL S)) tk be an va bd ++ ([((am 0), .inl (gI G, 51, .inl (mm (sN S))))] ++ [((am 3), .inl (gI G, 7, .inl (sF S)))])) (c_X6_in (kl K) G (v.toInt64) 0 9999) gX6_set_X6_in rfl rfl rfl ⟨by decide, by decide, rfl⟩ ⟨Nat.le_of_ble_eq_true rfl, Nat.le_of_ble_eq_true rfl⟩ ⟨Nat.zero_le _, Nat.zero_le _⟩ rfl (by decide) rfl rfl (Nat.le_of_ble_eq_true rfl) dX6_set_48 (fun _ => rfl) (fun zu8 zk8 => ?_)
        refine j_top (bI (inL (v.toInt64) 0 9999)) rfl ?_
        refine j_top (bI (inI v 0 9999)) (congrArg bI (inL_i v 0 9999)) ?_
        refine j_ifB_eq 51 cx 58 dX6_set_51 (by decide) (fun zc4 => ?_) (fun zc4 => ?_)
        · skip
          refine j_iconst 58 cx 0 dX6_set_58 (by decide) ?_
          refine j_istore 59 cx [(4, .int 0), (0, .ref o), (1, .int (nI k)), (2, .int 2), (3, .int v)] dX6_set_59 (by decide) rfl ?_
          refine j_iload 61 cx 0 dX6_set_61 rfl ?_
          refine j_if_eq_T 63 cx 82 dX6_set_63 (by decide) (by decide) ?_
          refine j_aload_n 82 cx 1 dX6_set_82 rfl ?_
          refine j_ldc 83 cx (v := -1000000001) (List.mem_of_getElem? (i := 1) rfl) dX6_set_83 ?_
          refine j_callV_i 85 cx 1 [0, 2] [.int (fcode 0)] (fun _ => wMO o am (sP S) la (nI (sL S)) tk be an va bd ++ ([((am 0), .inl (gI G, 51, .inl (mm (sN S))))] ++ [((am 3), .inl (gI G, 7, .inl (upd (sF S) 0 ((sF S) 0 + 1))))])) (c_X6_finds (kl K) G o am (sP S) la (nI (sL S)) tk be an va bd (sF S) 0 (by decide)) gX6_set_X6_finds rfl rfl rfl ⟨rfl, by decide, by decide, rfl⟩ ⟨Nat.le_of_ble_eq_true rfl, Nat.le_of_ble_eq_true rfl⟩ ⟨Nat.zero_le _, Nat.zero_le _⟩ rfl (by decide) (ci := 5) 0 rfl rfl rfl rfl rfl (Nat.le_of_ble_eq_true rfl) dX6_set_85 (fun _ => rfl) (fun zu9 zk9 => ?_)
          refine j_top (fcode 0) rfl ?_
          have ze : (sp_set (nI k) 2 v S) = bad S 0 := by unfold sp_set; simp [isP_eq hI, bI_t, bI_f, zc1, hkc, zc2, zc4]
          exact fin () _ _ _ _ dX6_set_88 rfl (by rw [ze] <;> rfl) (by rw [ze] <;> rfl) trivial
        · skip
          refine j_iconst 54 cx 1 dX6_set_54 (by decide) ?_
          refine j_goto 55 cx 59 dX6_set_55 (by decide) ?_
          refine j_istore 59 cx [(4, .int 1), (0, .ref o), (1, .int (nI k)), (2, .int 2), (3, .int v)] dX6_set_59 (by decide) rfl ?_
          refine j_iload 61 cx 0 dX6_set_61 rfl ?_
          refine j_if_eq_F 63 cx 82 dX6_set_63 (by decide) (by decide) ?_
          refine j_aload_n 66 cx 1 dX6_set_66 rfl ?_
          refine j_bipush 67 cx 11 dX6_set_67 (by decide) ?_
          refine j_iconst 69 cx 5 dX6_set_69 (by decide) ?_
          refine j_iload_n 70 cx 2 dX6_set_70 rfl ?_
          refine j_imul 71 cx dX6_set_71 ?_
          refine j_top (nI (5 * k)) (pk_mul 5 k) ?_
          refine j_iadd 72 cx dX6_set_72 ?_
          refine j_top (nI (11 + 5 * k)) (nI_add 11 (5 * k)) ?_
          refine j_iload_n 73 cx 3 dX6_set_73 rfl ?_
          refine j_iadd 74 cx dX6_set_74 ?_
          refine j_top (nI (11 + 5 * k + 2)) (nI_add (11 + 5 * k) 2) ?_
          refine j_iload_n 75 cx 4 dX6_set_75 rfl ?_
          refine j_callV_i 76 cx 2 [0, 1] [.int (nI (11 + 5 * k + 2)), .int v] (fun _ => wMO o am (sP S) la (nI (sL S)) tk be an va bd ++ ([((am 0), .inl (gI G, 51, .inl (upd (mm (sN S)) (11 + 5 * k + 2) v)))] ++ [((am 3), .inl (gI G, 7, .inl (sF S)))])) (c_X6_becomes (kl K) G o am (sP S) la (nI (sL S)) tk be an va bd (mm (sN S)) (11 + 5 * k + 2) v (by omega)) gX6_set_X6_becomes rfl rfl rfl ⟨rfl, by decide, by decide, rfl⟩ ⟨Nat.le_of_ble_eq_true rfl, Nat.le_of_ble_eq_true rfl⟩ ⟨Nat.zero_le _, Nat.zero_le _⟩ rfl (by decide) (ci := 5) 0 rfl rfl rfl rfl rfl (Nat.le_of_ble_eq_true rfl) dX6_set_76 (fun _ => rfl) (fun zu10 zk10 => ?_)
          refine j_ws (wMO o am (sP S) la (nI (sL S)) tk be an va bd ++ ([((am 0), .inl (gI G, 51, .inl (mm (up2 (sN S) 4 k v))))] ++ [((am 3), .inl (gI G, 7, .inl (sF S)))])) (congrArg (fun zf : Nat → Int32 => wMO o am (sP S) la (nI (sL S)) tk be an va bd ++ ([((am 0), .inl (gI G, 51, .inl zf))] ++ [((am 3), .inl (gI G, 7, .inl (sF S)))])) (mm_uit _ k _ (by omega))) ?_
          refine j_top ((mm (sN S)) (11 + 5 * k + 2)) rfl ?_
          refine j_top ((sN S) 4 k) (mm_it _ k (by omega)) ?_
          refine j_goto 79 cx 88 dX6_set_79 (by decide) ?_
          have ze : (sp_set (nI k) 2 v S) = ((sN S) 4 k, stN S (up2 (sN S) 4 k v)) := by unfold sp_set; simp [isP_eq hI, bI_t, bI_f, zc1, hkc, zc2, zc4]
          exact fin () _ _ _ _ dX6_set_88 rfl (by rw [ze] <;> rfl) (by rw [ze] <;> rfl) trivial
      · skip
        refine j_iload_n 18 cx 3 dX6_set_18 rfl ?_
        refine j_i2l 19 cx dX6_set_19 ?_
        refine j_iload_n 20 cx 2 dX6_set_20 rfl ?_
        refine j_iconst 21 cx 1 dX6_set_21 (by decide) ?_
        refine j_icmp_ne_T 22 cx 29 dX6_set_22 (by decide) (by decide) ?_
        refine j_iconst 29 cx 0 dX6_set_29 (by decide) ?_
        refine j_iload_n 30 cx 2 dX6_set_30 rfl ?_
        refine j_iconst 31 cx 2 dX6_set_31 (by decide) ?_
        refine j_icmp_eq_F 32 cx 40 dX6_set_32 (by decide) (by decide) ?_
        refine j_iload_n 35 cx 2 dX6_set_35 rfl ?_
        refine j_iconst 36 cx 3 dX6_set_36 (by decide) ?_
        refine j_icmp_ne_F 37 cx 46 dX6_set_37 (by decide) (by decide) ?_
        refine j_sipush 40 cx 9999 dX6_set_40 (by decide) ?_
        refine j_goto 43 cx 48 dX6_set_43 (by decide) ?_
        refine j_callS_i 48 cx 3 [] [.long (v.toInt64), .int 0, .int 9999] (fun _ => wMO o am (sP S) la (nI (sL S)) tk be an va bd ++ ([((am 0), .inl (gI G, 51, .inl (mm (sN S))))] ++ [((am 3), .inl (gI G, 7, .inl (sF S)))])) (c_X6_in (kl K) G (v.toInt64) 0 9999) gX6_set_X6_in rfl rfl rfl ⟨by decide, by decide, rfl⟩ ⟨Nat.le_of_ble_eq_true rfl, Nat.le_of_ble_eq_true rfl⟩ ⟨Nat.zero_le _, Nat.zero_le _⟩ rfl (by decide) rfl rfl (Nat.le_of_ble_eq_true rfl) dX6_set_48 (fun _ => rfl) (fun zu11 zk11 => ?_)
        refine j_top (bI (inL (v.toInt64) 0 9999)) rfl ?_
        refine j_top (bI (inI v 0 9999)) (congrArg bI (inL_i v 0 9999)) ?_
        refine j_ifB_eq 51 cx 58 dX6_set_51 (by decide) (fun zc5 => ?_) (fun zc5 => ?_)
        · skip
          refine j_iconst 58 cx 0 dX6_set_58 (by decide) ?_
          refine j_istore 59 cx [(4, .int 0), (0, .ref o), (1, .int (nI k)), (2, .int 3), (3, .int v)] dX6_set_59 (by decide) rfl ?_
          refine j_iload 61 cx 0 dX6_set_61 rfl ?_
          refine j_if_eq_T 63 cx 82 dX6_set_63 (by decide) (by decide) ?_
          refine j_aload_n 82 cx 1 dX6_set_82 rfl ?_
          refine j_ldc 83 cx (v := -1000000001) (List.mem_of_getElem? (i := 1) rfl) dX6_set_83 ?_
          refine j_callV_i 85 cx 1 [0, 2] [.int (fcode 0)] (fun _ => wMO o am (sP S) la (nI (sL S)) tk be an va bd ++ ([((am 0), .inl (gI G, 51, .inl (mm (sN S))))] ++ [((am 3), .inl (gI G, 7, .inl (upd (sF S) 0 ((sF S) 0 + 1))))])) (c_X6_finds (kl K) G o am (sP S) la (nI (sL S)) tk be an va bd (sF S) 0 (by decide)) gX6_set_X6_finds rfl rfl rfl ⟨rfl, by decide, by decide, rfl⟩ ⟨Nat.le_of_ble_eq_true rfl, Nat.le_of_ble_eq_true rfl⟩ ⟨Nat.zero_le _, Nat.zero_le _⟩ rfl (by decide) (ci := 5) 0 rfl rfl rfl rfl rfl (Nat.le_of_ble_eq_true rfl) dX6_set_85 (fun _ => rfl) (fun zu12 zk12 => ?_)
          refine j_top (fcode 0) rfl ?_
          have ze : (sp_set (nI k) 3 v S) = bad S 0 := by unfold sp_set; simp [isP_eq hI, bI_t, bI_f, zc1, hkc, zc2, zc5]
          exact fin () _ _ _ _ dX6_set_88 rfl (by rw [ze] <;> rfl) (by rw [ze] <;> rfl) trivial
        · skip
          refine j_iconst 54 cx 1 dX6_set_54 (by decide) ?_
          refine j_goto 55 cx 59 dX6_set_55 (by decide) ?_
          refine j_istore 59 cx [(4, .int 1), (0, .ref o), (1, .int (nI k)), (2, .int 3), (3, .int v)] dX6_set_59 (by decide) rfl ?_
          refine j_iload 61 cx 0 dX6_set_61 rfl ?_
          refine j_if_eq_F 63 cx 82 dX6_set_63 (by decide) (by decide) ?_
          refine j_aload_n 66 cx 1 dX6_set_66 rfl ?_
          refine j_bipush 67 cx 11 dX6_set_67 (by decide) ?_
          refine j_iconst 69 cx 5 dX6_set_69 (by decide) ?_
          refine j_iload_n 70 cx 2 dX6_set_70 rfl ?_
          refine j_imul 71 cx dX6_set_71 ?_
          refine j_top (nI (5 * k)) (pk_mul 5 k) ?_
          refine j_iadd 72 cx dX6_set_72 ?_
          refine j_top (nI (11 + 5 * k)) (nI_add 11 (5 * k)) ?_
          refine j_iload_n 73 cx 3 dX6_set_73 rfl ?_
          refine j_iadd 74 cx dX6_set_74 ?_
          refine j_top (nI (11 + 5 * k + 3)) (nI_add (11 + 5 * k) 3) ?_
          refine j_iload_n 75 cx 4 dX6_set_75 rfl ?_
          refine j_callV_i 76 cx 2 [0, 1] [.int (nI (11 + 5 * k + 3)), .int v] (fun _ => wMO o am (sP S) la (nI (sL S)) tk be an va bd ++ ([((am 0), .inl (gI G, 51, .inl (upd (mm (sN S)) (11 + 5 * k + 3) v)))] ++ [((am 3), .inl (gI G, 7, .inl (sF S)))])) (c_X6_becomes (kl K) G o am (sP S) la (nI (sL S)) tk be an va bd (mm (sN S)) (11 + 5 * k + 3) v (by omega)) gX6_set_X6_becomes rfl rfl rfl ⟨rfl, by decide, by decide, rfl⟩ ⟨Nat.le_of_ble_eq_true rfl, Nat.le_of_ble_eq_true rfl⟩ ⟨Nat.zero_le _, Nat.zero_le _⟩ rfl (by decide) (ci := 5) 0 rfl rfl rfl rfl rfl (Nat.le_of_ble_eq_true rfl) dX6_set_76 (fun _ => rfl) (fun zu13 zk13 => ?_)
          refine j_ws (wMO o am (sP S) la (nI (sL S)) tk be an va bd ++ ([((am 0), .inl (gI G, 51, .inl (mm (up2 (sN S) 5 k v))))] ++ [((am 3), .inl (gI G, 7, .inl (sF S)))])) (congrArg (fun zf : Nat → Int32 => wMO o am (sP S) la (nI (sL S)) tk be an va bd ++ ([((am 0), .inl (gI G, 51, .inl zf))] ++ [((am 3), .inl (gI G, 7, .inl (sF S)))])) (mm_uit _ k _ (by omega))) ?_
          refine j_top ((mm (sN S)) (11 + 5 * k + 3)) rfl ?_
          refine j_top ((sN S) 5 k) (mm_it _ k (by omega)) ?_
          refine j_goto 79 cx 88 dX6_set_79 (by decide) ?_
          have ze : (sp_set (nI k) 3 v S) = ((sN S) 5 k, stN S (up2 (sN S) 5 k v)) := by unfold sp_set; simp [isP_eq hI, bI_t, bI_f, zc1, hkc, zc2, zc5]
          exact fin () _ _ _ _ dX6_set_88 rfl (by rw [ze] <;> rfl) (by rw [ze] <;> rfl) trivial
      · skip
        refine j_iload_n 18 cx 3 dX6_set_18 rfl ?_
        refine j_i2l 19 cx dX6_set_19 ?_
        refine j_iload_n 20 cx 2 dX6_set_20 rfl ?_
        refine j_iconst 21 cx 1 dX6_set_21 (by decide) ?_
        refine j_icmp_ne_T 22 cx 29 dX6_set_22 (by decide) (by decide) ?_
        refine j_iconst 29 cx 0 dX6_set_29 (by decide) ?_
        refine j_iload_n 30 cx 2 dX6_set_30 rfl ?_
        refine j_iconst 31 cx 2 dX6_set_31 (by decide) ?_
        refine j_icmp_eq_F 32 cx 40 dX6_set_32 (by decide) (by decide) ?_
        refine j_iload_n 35 cx 2 dX6_set_35 rfl ?_
        refine j_iconst 36 cx 3 dX6_set_36 (by decide) ?_
        refine j_icmp_ne_T 37 cx 46 dX6_set_37 (by decide) (by decide) ?_
        refine j_bipush 46 cx 99 dX6_set_46 (by decide) ?_
        refine j_callS_i 48 cx 3 [] [.long (v.toInt64), .int 0, .int 99] (fun _ => wMO o am (sP S) la (nI (sL S)) tk be an va bd ++ ([((am 0), .inl (gI G, 51, .inl (mm (sN S))))] ++ [((am 3), .inl (gI G, 7, .inl (sF S)))])) (c_X6_in (kl K) G (v.toInt64) 0 99) gX6_set_X6_in rfl rfl rfl ⟨by decide, by decide, rfl⟩ ⟨Nat.le_of_ble_eq_true rfl, Nat.le_of_ble_eq_true rfl⟩ ⟨Nat.zero_le _, Nat.zero_le _⟩ rfl (by decide) rfl rfl (Nat.le_of_ble_eq_true rfl) dX6_set_48 (fun _ => rfl) (fun zu14 zk14 => ?_)
        refine j_top (bI (inL (v.toInt64) 0 99)) rfl ?_
        refine j_top (bI (inI v 0 99)) (congrArg bI (inL_i v 0 99)) ?_
        refine j_ifB_eq 51 cx 58 dX6_set_51 (by decide) (fun zc6 => ?_) (fun zc6 => ?_)
        · skip
          refine j_iconst 58 cx 0 dX6_set_58 (by decide) ?_
          refine j_istore 59 cx [(4, .int 0), (0, .ref o), (1, .int (nI k)), (2, .int 4), (3, .int v)] dX6_set_59 (by decide) rfl ?_
          refine j_iload 61 cx 0 dX6_set_61 rfl ?_
          refine j_if_eq_T 63 cx 82 dX6_set_63 (by decide) (by decide) ?_
          refine j_aload_n 82 cx 1 dX6_set_82 rfl ?_
          refine j_ldc 83 cx (v := -1000000001) (List.mem_of_getElem? (i := 1) rfl) dX6_set_83 ?_
          refine j_callV_i 85 cx 1 [0, 2] [.int (fcode 0)] (fun _ => wMO o am (sP S) la (nI (sL S)) tk be an va bd ++ ([((am 0), .inl (gI G, 51, .inl (mm (sN S))))] ++ [((am 3), .inl (gI G, 7, .inl (upd (sF S) 0 ((sF S) 0 + 1))))])) (c_X6_finds (kl K) G o am (sP S) la (nI (sL S)) tk be an va bd (sF S) 0 (by decide)) gX6_set_X6_finds rfl rfl rfl ⟨rfl, by decide, by decide, rfl⟩ ⟨Nat.le_of_ble_eq_true rfl, Nat.le_of_ble_eq_true rfl⟩ ⟨Nat.zero_le _, Nat.zero_le _⟩ rfl (by decide) (ci := 5) 0 rfl rfl rfl rfl rfl (Nat.le_of_ble_eq_true rfl) dX6_set_85 (fun _ => rfl) (fun zu15 zk15 => ?_)
          refine j_top (fcode 0) rfl ?_
          have ze : (sp_set (nI k) 4 v S) = bad S 0 := by unfold sp_set; simp [isP_eq hI, bI_t, bI_f, zc1, hkc, zc2, zc6]
          exact fin () _ _ _ _ dX6_set_88 rfl (by rw [ze] <;> rfl) (by rw [ze] <;> rfl) trivial
        · skip
          refine j_iconst 54 cx 1 dX6_set_54 (by decide) ?_
          refine j_goto 55 cx 59 dX6_set_55 (by decide) ?_
          refine j_istore 59 cx [(4, .int 1), (0, .ref o), (1, .int (nI k)), (2, .int 4), (3, .int v)] dX6_set_59 (by decide) rfl ?_
          refine j_iload 61 cx 0 dX6_set_61 rfl ?_
          refine j_if_eq_F 63 cx 82 dX6_set_63 (by decide) (by decide) ?_
          refine j_aload_n 66 cx 1 dX6_set_66 rfl ?_
          refine j_bipush 67 cx 11 dX6_set_67 (by decide) ?_
          refine j_iconst 69 cx 5 dX6_set_69 (by decide) ?_
          refine j_iload_n 70 cx 2 dX6_set_70 rfl ?_
          refine j_imul 71 cx dX6_set_71 ?_
          refine j_top (nI (5 * k)) (pk_mul 5 k) ?_
          refine j_iadd 72 cx dX6_set_72 ?_
          refine j_top (nI (11 + 5 * k)) (nI_add 11 (5 * k)) ?_
          refine j_iload_n 73 cx 3 dX6_set_73 rfl ?_
          refine j_iadd 74 cx dX6_set_74 ?_
          refine j_top (nI (11 + 5 * k + 4)) (nI_add (11 + 5 * k) 4) ?_
          refine j_iload_n 75 cx 4 dX6_set_75 rfl ?_
          refine j_callV_i 76 cx 2 [0, 1] [.int (nI (11 + 5 * k + 4)), .int v] (fun _ => wMO o am (sP S) la (nI (sL S)) tk be an va bd ++ ([((am 0), .inl (gI G, 51, .inl (upd (mm (sN S)) (11 + 5 * k + 4) v)))] ++ [((am 3), .inl (gI G, 7, .inl (sF S)))])) (c_X6_becomes (kl K) G o am (sP S) la (nI (sL S)) tk be an va bd (mm (sN S)) (11 + 5 * k + 4) v (by omega)) gX6_set_X6_becomes rfl rfl rfl ⟨rfl, by decide, by decide, rfl⟩ ⟨Nat.le_of_ble_eq_true rfl, Nat.le_of_ble_eq_true rfl⟩ ⟨Nat.zero_le _, Nat.zero_le _⟩ rfl (by decide) (ci := 5) 0 rfl rfl rfl rfl rfl (Nat.le_of_ble_eq_true rfl) dX6_set_76 (fun _ => rfl) (fun zu16 zk16 => ?_)
          refine j_ws (wMO o am (sP S) la (nI (sL S)) tk be an va bd ++ ([((am 0), .inl (gI G, 51, .inl (mm (up2 (sN S) 6 k v))))] ++ [((am 3), .inl (gI G, 7, .inl (sF S)))])) (congrArg (fun zf : Nat → Int32 => wMO o am (sP S) la (nI (sL S)) tk be an va bd ++ ([((am 0), .inl (gI G, 51, .inl zf))] ++ [((am 3), .inl (gI G, 7, .inl (sF S)))])) (mm_uit _ k _ (by omega))) ?_
          refine j_top ((mm (sN S)) (11 + 5 * k + 4)) rfl ?_
          refine j_top ((sN S) 6 k) (mm_it _ k (by omega)) ?_
          refine j_goto 79 cx 88 dX6_set_79 (by decide) ?_
          have ze : (sp_set (nI k) 4 v S) = ((sN S) 6 k, stN S (up2 (sN S) 6 k v)) := by unfold sp_set; simp [isP_eq hI, bI_t, bI_f, zc1, hkc, zc2, zc6]
          exact fin () _ _ _ _ dX6_set_88 rfl (by rw [ze] <;> rfl) (by rw [ze] <;> rfl) trivial
set_option maxRecDepth 100000 in
set_option maxHeartbeats 4000000 in
theorem c_X6_as (l : Launch) (G : pG) (o : Nat) (am : Nat → Nat) (S : St) (la tk be an va : Int32) (bd : Bool) (ω : Nu) (hI : Inv (sN S)) (hD : dyN (sN S) ≤ 9999) (p k0 : Int32) : KI l G yX6_as wsX6_as ({ frames := 2, cells := 0, slots := 0, locals := 44 } : Room) [.ref o, .int p, .int k0] (wMO o am (sP S) la (nI (sL S)) tk be an va bd ++ ([((am 0), .inl (gI G, 51, .inl (mm (sN S))))] ++ [((am 3), .inl (gI G, 7, .inl (sF S)))])) (S := Unit) (fun _ => True) (fun u => (sp_as p k0 S).1) (fun u => wMO o am (sP S) la (nI (sL S)) tk be an va bd ++ ([((am 0), .inl (gI G, 51, .inl (mm (sN (sp_as p k0 S).2))))] ++ [((am 3), .inl (gI G, 7, .inl (sF (sp_as p k0 S).2)))])) := by
  refine ki_of [(0, .ref o), (1, .int p), (2, .int k0)] (own := RX6) (cc := cX6_as) (nL := 5) (by decide +kernel) rfl rfl (Nat.le_of_ble_eq_true rfl) rfl (fun _ => rfl) (fun K cx fin => ?_)
  refine j_aload_n 0 cx 0 dX6_as_0 rfl ?_
  refine j_iload_n 1 cx 1 dX6_as_1 rfl ?_
  refine j_callV_i 2 cx 1 [0, 1] [.int p] (fun _ => wMO o am (sP S) la (nI (sL S)) tk be an va bd ++ ([((am 0), .inl (gI G, 51, .inl (mm (sN S))))] ++ [((am 3), .inl (gI G, 7, .inl (sF S)))])) (c_X6_isPart (kl K) G o am (sP S) la (nI (sL S)) tk be an va bd (sN S) p hI ) gX6_as_X6_isPart rfl rfl rfl ⟨rfl, by decide, by decide, rfl⟩ ⟨Nat.le_of_ble_eq_true rfl, Nat.le_of_ble_eq_true rfl⟩ ⟨Nat.zero_le _, Nat.zero_le _⟩ rfl (by decide) (ci := 5) 0 rfl rfl rfl rfl rfl (Nat.le_of_ble_eq_true rfl) dX6_as_2 (fun _ => rfl) (fun zu1 zk1 => ?_)
  refine j_top (bI (inI p 0 (nI (szN (sN S)) - 1))) rfl ?_
  refine j_ifB_eq 5 cx 18 dX6_as_5 (by decide) (fun zc1 => ?_) (fun zc1 => ?_)
  · skip
    refine j_aload_n 18 cx 0 dX6_as_18 rfl ?_
    refine j_ldc 19 cx (v := -1000000001) (List.mem_of_getElem? (i := 1) rfl) dX6_as_19 ?_
    refine j_callV_i 21 cx 1 [0, 2] [.int (fcode 0)] (fun _ => wMO o am (sP S) la (nI (sL S)) tk be an va bd ++ ([((am 0), .inl (gI G, 51, .inl (mm (sN S))))] ++ [((am 3), .inl (gI G, 7, .inl (upd (sF S) 0 ((sF S) 0 + 1))))])) (c_X6_finds (kl K) G o am (sP S) la (nI (sL S)) tk be an va bd (sF S) 0 (by decide)) gX6_as_X6_finds rfl rfl rfl ⟨rfl, by decide, by decide, rfl⟩ ⟨Nat.le_of_ble_eq_true rfl, Nat.le_of_ble_eq_true rfl⟩ ⟨Nat.zero_le _, Nat.zero_le _⟩ rfl (by decide) (ci := 5) 0 rfl rfl rfl rfl rfl (Nat.le_of_ble_eq_true rfl) dX6_as_21 (fun _ => rfl) (fun zu2 zk2 => ?_)
    refine j_top (fcode 0) rfl ?_
    have ze : (sp_as p k0 S) = bad S 0 := by clear fin cx; unfold sp_as; simp_all [isP_eq hI] <;> (intro zh; exact absurd zh.symm zc4)
    exact fin () _ _ _ _ dX6_as_24 rfl (by rw [ze] <;> rfl) (by rw [ze] <;> rfl) trivial
  · skip
    obtain ⟨k, hk, rfl⟩ := in_n (by have := hI.sz8; omega) zc1
    have h8 := hI.sz8
    have hkc : (nI k).toNatClampNeg = k := nI_clamp (by omega)
    refine j_iload_n 8 cx 2 dX6_as_8 rfl ?_
    refine j_i2l 9 cx dX6_as_9 ?_
    refine j_iconst 10 cx 0 dX6_as_10 (by decide) ?_
    refine j_iconst 11 cx 5 dX6_as_11 (by decide) ?_
    refine j_callS_i 12 cx 3 [] [.long (k0.toInt64), .int 0, .int 5] (fun _ => wMO o am (sP S) la (nI (sL S)) tk be an va bd ++ ([((am 0), .inl (gI G, 51, .inl (mm (sN S))))] ++ [((am 3), .inl (gI G, 7, .inl (sF S)))])) (c_X6_in (kl K) G (k0.toInt64) 0 5) gX6_as_X6_in rfl rfl rfl ⟨by decide, by decide, rfl⟩ ⟨Nat.le_of_ble_eq_true rfl, Nat.le_of_ble_eq_true rfl⟩ ⟨Nat.zero_le _, Nat.zero_le _⟩ rfl (by decide) rfl rfl (Nat.le_of_ble_eq_true rfl) dX6_as_12 (fun _ => rfl) (fun zu3 zk3 => ?_)
    refine j_top (bI (inL (k0.toInt64) 0 5)) rfl ?_
    refine j_top (bI (inI k0 0 5)) (congrArg bI (inL_i k0 0 5)) ?_
    refine j_ifB_ne 15 cx 25 dX6_as_15 (by decide) (fun zc2 => ?_) (fun zc2 => ?_)
    · skip
      refine j_aload_n 25 cx 0 dX6_as_25 rfl ?_
      refine j_iload_n 26 cx 1 dX6_as_26 rfl ?_
      refine j_iconst 27 cx 0 dX6_as_27 (by decide) ?_
      refine j_callV_i 28 cx 2 [0, 1] [.int (nI k), .int 0] (fun _ => wMO o am (sP S) la (nI (sL S)) tk be an va bd ++ ([((am 0), .inl (gI G, 51, .inl (mm (sN S))))] ++ [((am 3), .inl (gI G, 7, .inl (sF S)))])) (c_X6_it (kl K) G o am (sP S) la (nI (sL S)) tk be an va bd (sN S) k 0 (by omega) (by omega) ) gX6_as_X6_it rfl rfl rfl ⟨rfl, by decide, by decide, rfl⟩ ⟨Nat.le_of_ble_eq_true rfl, Nat.le_of_ble_eq_true rfl⟩ ⟨Nat.zero_le _, Nat.zero_le _⟩ rfl (by decide) (ci := 5) 0 rfl rfl rfl rfl rfl (Nat.le_of_ble_eq_true rfl) dX6_as_28 (fun _ => rfl) (fun zu4 zk4 => ?_)
      refine j_top ((sN S) 2 k) rfl ?_
      refine j_istore_n 31 cx [(3, .int ((sN S) 2 k)), (0, .ref o), (1, .int (nI k)), (2, .int k0)] dX6_as_31 (by decide) rfl ?_
      refine j_iload_n 32 cx 3 dX6_as_32 rfl ?_
      refine j_if_eq 33 cx 61 dX6_as_33 (by decide) (fun zc3 => ?_) (fun zc3 => ?_)
      · skip
        refine j_iconst 61 cx 1 dX6_as_61 (by decide) ?_
        refine j_goto 62 cx 66 dX6_as_62 (by decide) ?_
        refine j_istore 66 cx [(4, .int 1), (3, .int ((sN S) 2 k)), (0, .ref o), (1, .int (nI k)), (2, .int k0)] dX6_as_66 (by decide) rfl ?_
        refine j_iload 68 cx 0 dX6_as_68 rfl ?_
        refine j_if_eq_F 70 cx 82 dX6_as_70 (by decide) (by decide) ?_
        refine j_aload_n 73 cx 2 dX6_as_73 rfl ?_
        refine j_iload_n 74 cx 3 dX6_as_74 rfl ?_
        refine j_iconst 75 cx 2 dX6_as_75 (by decide) ?_
        refine j_callV_i 76 cx 2 [0, 1] [.int (nI k), .int 2] (fun _ => wMO o am (sP S) la (nI (sL S)) tk be an va bd ++ ([((am 0), .inl (gI G, 51, .inl (mm (sN S))))] ++ [((am 3), .inl (gI G, 7, .inl (sF S)))])) (c_X6_it (kl K) G o am (sP S) la (nI (sL S)) tk be an va bd (sN S) k 2 (by omega) (by omega) ) gX6_as_X6_it rfl rfl rfl ⟨rfl, by decide, by decide, rfl⟩ ⟨Nat.le_of_ble_eq_true rfl, Nat.le_of_ble_eq_true rfl⟩ ⟨Nat.zero_le _, Nat.zero_le _⟩ rfl (by decide) (ci := 5) 0 rfl rfl rfl rfl rfl (Nat.le_of_ble_eq_true rfl) dX6_as_76 (fun _ => rfl) (fun zu5 zk5 => ?_)
        refine j_top ((sN S) 4 k) rfl ?_
        refine j_goto 79 cx 88 dX6_as_79 (by decide) ?_
        have ze : (sp_as (nI k) k0 S) = ((sN S) 4 k, S) := by clear fin cx; unfold sp_as; simp_all [isP_eq hI] <;> (intro zh; exact absurd zh.symm zc4)
        exact fin () _ _ _ _ dX6_as_88 rfl (by rw [ze] <;> rfl) (by rw [ze] <;> rfl) trivial
      · skip
        refine j_iload_n 36 cx 3 dX6_as_36 rfl ?_
        refine j_iload_n 37 cx 0 dX6_as_37 rfl ?_
        refine j_icmp_eq 38 cx 61 dX6_as_38 (by decide) (fun zc4 => ?_) (fun zc4 => ?_)
        · skip
          refine j_iconst 61 cx 1 dX6_as_61 (by decide) ?_
          refine j_goto 62 cx 66 dX6_as_62 (by decide) ?_
          refine j_istore 66 cx [(4, .int 1), (3, .int ((sN S) 2 k)), (0, .ref o), (1, .int (nI k)), (2, .int k0)] dX6_as_66 (by decide) rfl ?_
          refine j_iload 68 cx 0 dX6_as_68 rfl ?_
          refine j_if_eq_F 70 cx 82 dX6_as_70 (by decide) (by decide) ?_
          refine j_aload_n 73 cx 2 dX6_as_73 rfl ?_
          refine j_iload_n 74 cx 3 dX6_as_74 rfl ?_
          refine j_iconst 75 cx 2 dX6_as_75 (by decide) ?_
          refine j_callV_i 76 cx 2 [0, 1] [.int (nI k), .int 2] (fun _ => wMO o am (sP S) la (nI (sL S)) tk be an va bd ++ ([((am 0), .inl (gI G, 51, .inl (mm (sN S))))] ++ [((am 3), .inl (gI G, 7, .inl (sF S)))])) (c_X6_it (kl K) G o am (sP S) la (nI (sL S)) tk be an va bd (sN S) k 2 (by omega) (by omega) ) gX6_as_X6_it rfl rfl rfl ⟨rfl, by decide, by decide, rfl⟩ ⟨Nat.le_of_ble_eq_true rfl, Nat.le_of_ble_eq_true rfl⟩ ⟨Nat.zero_le _, Nat.zero_le _⟩ rfl (by decide) (ci := 5) 0 rfl rfl rfl rfl rfl (Nat.le_of_ble_eq_true rfl) dX6_as_76 (fun _ => rfl) (fun zu6 zk6 => ?_)
          refine j_top ((sN S) 4 k) rfl ?_
          refine j_goto 79 cx 88 dX6_as_79 (by decide) ?_
          have ze : (sp_as (nI k) k0 S) = ((sN S) 4 k, S) := by clear fin cx; unfold sp_as; simp_all [isP_eq hI] <;> (intro zh; exact absurd zh.symm zc4)
          exact fin () _ _ _ _ dX6_as_88 rfl (by rw [ze] <;> rfl) (by rw [ze] <;> rfl) trivial
        · skip
          refine j_iload_n 41 cx 3 dX6_as_41 rfl ?_
          refine j_iconst 42 cx 1 dX6_as_42 (by decide) ?_
          refine j_icmp_ne 43 cx 51 dX6_as_43 (by decide) (fun zc5 => ?_) (fun zc5 => ?_)
          · skip
            refine j_iload_n 51 cx 3 dX6_as_51 rfl ?_
            refine j_iconst 52 cx 2 dX6_as_52 (by decide) ?_
            refine j_icmp_ne 53 cx 65 dX6_as_53 (by decide) (fun zc6 => ?_) (fun zc6 => ?_)
            · skip
              refine j_iconst 65 cx 0 dX6_as_65 (by decide) ?_
              refine j_istore 66 cx [(4, .int 0), (3, .int ((sN S) 2 k)), (0, .ref o), (1, .int (nI k)), (2, .int k0)] dX6_as_66 (by decide) rfl ?_
              refine j_iload 68 cx 0 dX6_as_68 rfl ?_
              refine j_if_eq_T 70 cx 82 dX6_as_70 (by decide) (by decide) ?_
              refine j_aload_n 82 cx 2 dX6_as_82 rfl ?_
              refine j_ldc 83 cx (v := -1000000003) (List.mem_of_getElem? (i := 2) rfl) dX6_as_83 ?_
              refine j_callV_i 85 cx 1 [0, 2] [.int (fcode 2)] (fun _ => wMO o am (sP S) la (nI (sL S)) tk be an va bd ++ ([((am 0), .inl (gI G, 51, .inl (mm (sN S))))] ++ [((am 3), .inl (gI G, 7, .inl (upd (sF S) 2 ((sF S) 2 + 1))))])) (c_X6_finds (kl K) G o am (sP S) la (nI (sL S)) tk be an va bd (sF S) 2 (by decide)) gX6_as_X6_finds rfl rfl rfl ⟨rfl, by decide, by decide, rfl⟩ ⟨Nat.le_of_ble_eq_true rfl, Nat.le_of_ble_eq_true rfl⟩ ⟨Nat.zero_le _, Nat.zero_le _⟩ rfl (by decide) (ci := 5) 0 rfl rfl rfl rfl rfl (Nat.le_of_ble_eq_true rfl) dX6_as_85 (fun _ => rfl) (fun zu7 zk7 => ?_)
              refine j_top (fcode 2) rfl ?_
              have ze : (sp_as (nI k) k0 S) = bad S 2 := by clear fin cx; unfold sp_as; simp_all [isP_eq hI] <;> (intro zh; exact absurd zh.symm zc4)
              exact fin () _ _ _ _ dX6_as_88 rfl (by rw [ze] <;> rfl) (by rw [ze] <;> rfl) trivial
            · skip
              refine j_iload_n 56 cx 0 dX6_as_56 rfl ?_
              refine j_iconst 57 cx 5 dX6_as_57 (by decide) ?_
              refine j_icmp_ne 58 cx 65 dX6_as_58 (by decide) (fun zc7 => ?_) (fun zc7 => ?_)
              · skip
                refine j_iconst 65 cx 0 dX6_as_65 (by decide) ?_
                refine j_istore 66 cx [(4, .int 0), (3, .int ((sN S) 2 k)), (0, .ref o), (1, .int (nI k)), (2, .int k0)] dX6_as_66 (by decide) rfl ?_
                refine j_iload 68 cx 0 dX6_as_68 rfl ?_
                refine j_if_eq_T 70 cx 82 dX6_as_70 (by decide) (by decide) ?_
                refine j_aload_n 82 cx 2 dX6_as_82 rfl ?_
                refine j_ldc 83 cx (v := -1000000003) (List.mem_of_getElem? (i := 2) rfl) dX6_as_83 ?_
                refine j_callV_i 85 cx 1 [0, 2] [.int (fcode 2)] (fun _ => wMO o am (sP S) la (nI (sL S)) tk be an va bd ++ ([((am 0), .inl (gI G, 51, .inl (mm (sN S))))] ++ [((am 3), .inl (gI G, 7, .inl (upd (sF S) 2 ((sF S) 2 + 1))))])) (c_X6_finds (kl K) G o am (sP S) la (nI (sL S)) tk be an va bd (sF S) 2 (by decide)) gX6_as_X6_finds rfl rfl rfl ⟨rfl, by decide, by decide, rfl⟩ ⟨Nat.le_of_ble_eq_true rfl, Nat.le_of_ble_eq_true rfl⟩ ⟨Nat.zero_le _, Nat.zero_le _⟩ rfl (by decide) (ci := 5) 0 rfl rfl rfl rfl rfl (Nat.le_of_ble_eq_true rfl) dX6_as_85 (fun _ => rfl) (fun zu8 zk8 => ?_)
                refine j_top (fcode 2) rfl ?_
                have ze : (sp_as (nI k) k0 S) = bad S 2 := by clear fin cx; unfold sp_as; simp_all [isP_eq hI] <;> (intro zh; exact absurd zh.symm zc4)
                exact fin () _ _ _ _ dX6_as_88 rfl (by rw [ze] <;> rfl) (by rw [ze] <;> rfl) trivial
              · skip
                refine j_iconst 61 cx 1 dX6_as_61 (by decide) ?_
                refine j_goto 62 cx 66 dX6_as_62 (by decide) ?_
                refine j_istore 66 cx [(4, .int 1), (3, .int ((sN S) 2 k)), (0, .ref o), (1, .int (nI k)), (2, .int k0)] dX6_as_66 (by decide) rfl ?_
                refine j_iload 68 cx 0 dX6_as_68 rfl ?_
                refine j_if_eq_F 70 cx 82 dX6_as_70 (by decide) (by decide) ?_
                refine j_aload_n 73 cx 2 dX6_as_73 rfl ?_
                refine j_iload_n 74 cx 3 dX6_as_74 rfl ?_
                refine j_iconst 75 cx 2 dX6_as_75 (by decide) ?_
                refine j_callV_i 76 cx 2 [0, 1] [.int (nI k), .int 2] (fun _ => wMO o am (sP S) la (nI (sL S)) tk be an va bd ++ ([((am 0), .inl (gI G, 51, .inl (mm (sN S))))] ++ [((am 3), .inl (gI G, 7, .inl (sF S)))])) (c_X6_it (kl K) G o am (sP S) la (nI (sL S)) tk be an va bd (sN S) k 2 (by omega) (by omega) ) gX6_as_X6_it rfl rfl rfl ⟨rfl, by decide, by decide, rfl⟩ ⟨Nat.le_of_ble_eq_true rfl, Nat.le_of_ble_eq_true rfl⟩ ⟨Nat.zero_le _, Nat.zero_le _⟩ rfl (by decide) (ci := 5) 0 rfl rfl rfl rfl rfl (Nat.le_of_ble_eq_true rfl) dX6_as_76 (fun _ => rfl) (fun zu9 zk9 => ?_)
                refine j_top ((sN S) 4 k) rfl ?_
                refine j_goto 79 cx 88 dX6_as_79 (by decide) ?_
                have ze : (sp_as (nI k) k0 S) = ((sN S) 4 k, S) := by clear fin cx; unfold sp_as; simp_all [isP_eq hI] <;> (intro zh; exact absurd zh.symm zc4)
                exact fin () _ _ _ _ dX6_as_88 rfl (by rw [ze] <;> rfl) (by rw [ze] <;> rfl) trivial
          · skip
            refine j_iload_n 46 cx 0 dX6_as_46 rfl ?_
            refine j_iconst 47 cx 4 dX6_as_47 (by decide) ?_
            refine j_icmp_eq 48 cx 61 dX6_as_48 (by decide) (fun zc8 => ?_) (fun zc8 => ?_)
            · skip
              refine j_iconst 61 cx 1 dX6_as_61 (by decide) ?_
              refine j_goto 62 cx 66 dX6_as_62 (by decide) ?_
              refine j_istore 66 cx [(4, .int 1), (3, .int ((sN S) 2 k)), (0, .ref o), (1, .int (nI k)), (2, .int k0)] dX6_as_66 (by decide) rfl ?_
              refine j_iload 68 cx 0 dX6_as_68 rfl ?_
              refine j_if_eq_F 70 cx 82 dX6_as_70 (by decide) (by decide) ?_
              refine j_aload_n 73 cx 2 dX6_as_73 rfl ?_
              refine j_iload_n 74 cx 3 dX6_as_74 rfl ?_
              refine j_iconst 75 cx 2 dX6_as_75 (by decide) ?_
              refine j_callV_i 76 cx 2 [0, 1] [.int (nI k), .int 2] (fun _ => wMO o am (sP S) la (nI (sL S)) tk be an va bd ++ ([((am 0), .inl (gI G, 51, .inl (mm (sN S))))] ++ [((am 3), .inl (gI G, 7, .inl (sF S)))])) (c_X6_it (kl K) G o am (sP S) la (nI (sL S)) tk be an va bd (sN S) k 2 (by omega) (by omega) ) gX6_as_X6_it rfl rfl rfl ⟨rfl, by decide, by decide, rfl⟩ ⟨Nat.le_of_ble_eq_true rfl, Nat.le_of_ble_eq_true rfl⟩ ⟨Nat.zero_le _, Nat.zero_le _⟩ rfl (by decide) (ci := 5) 0 rfl rfl rfl rfl rfl (Nat.le_of_ble_eq_true rfl) dX6_as_76 (fun _ => rfl) (fun zu10 zk10 => ?_)
              refine j_top ((sN S) 4 k) rfl ?_
              refine j_goto 79 cx 88 dX6_as_79 (by decide) ?_
              have ze : (sp_as (nI k) k0 S) = ((sN S) 4 k, S) := by clear fin cx; unfold sp_as; simp_all [isP_eq hI] <;> (intro zh; exact absurd zh.symm zc4)
              exact fin () _ _ _ _ dX6_as_88 rfl (by rw [ze] <;> rfl) (by rw [ze] <;> rfl) trivial
            · skip
              refine j_iload_n 51 cx 3 dX6_as_51 rfl ?_
              refine j_iconst 52 cx 2 dX6_as_52 (by decide) ?_
              refine j_icmp_ne 53 cx 65 dX6_as_53 (by decide) (fun zc9 => ?_) (fun zc9 => ?_)
              · skip
                refine j_iconst 65 cx 0 dX6_as_65 (by decide) ?_
                refine j_istore 66 cx [(4, .int 0), (3, .int ((sN S) 2 k)), (0, .ref o), (1, .int (nI k)), (2, .int k0)] dX6_as_66 (by decide) rfl ?_
                refine j_iload 68 cx 0 dX6_as_68 rfl ?_
                refine j_if_eq_T 70 cx 82 dX6_as_70 (by decide) (by decide) ?_
                refine j_aload_n 82 cx 2 dX6_as_82 rfl ?_
                refine j_ldc 83 cx (v := -1000000003) (List.mem_of_getElem? (i := 2) rfl) dX6_as_83 ?_
                refine j_callV_i 85 cx 1 [0, 2] [.int (fcode 2)] (fun _ => wMO o am (sP S) la (nI (sL S)) tk be an va bd ++ ([((am 0), .inl (gI G, 51, .inl (mm (sN S))))] ++ [((am 3), .inl (gI G, 7, .inl (upd (sF S) 2 ((sF S) 2 + 1))))])) (c_X6_finds (kl K) G o am (sP S) la (nI (sL S)) tk be an va bd (sF S) 2 (by decide)) gX6_as_X6_finds rfl rfl rfl ⟨rfl, by decide, by decide, rfl⟩ ⟨Nat.le_of_ble_eq_true rfl, Nat.le_of_ble_eq_true rfl⟩ ⟨Nat.zero_le _, Nat.zero_le _⟩ rfl (by decide) (ci := 5) 0 rfl rfl rfl rfl rfl (Nat.le_of_ble_eq_true rfl) dX6_as_85 (fun _ => rfl) (fun zu11 zk11 => ?_)
                refine j_top (fcode 2) rfl ?_
                have ze : (sp_as (nI k) k0 S) = bad S 2 := by clear fin cx; unfold sp_as; simp_all [isP_eq hI] <;> (intro zh; exact absurd zh.symm zc4)
                exact fin () _ _ _ _ dX6_as_88 rfl (by rw [ze] <;> rfl) (by rw [ze] <;> rfl) trivial
              · skip
                refine j_iload_n 56 cx 0 dX6_as_56 rfl ?_
                refine j_iconst 57 cx 5 dX6_as_57 (by decide) ?_
                refine j_icmp_ne 58 cx 65 dX6_as_58 (by decide) (fun zc10 => ?_) (fun zc10 => ?_)
                · skip
                  refine j_iconst 65 cx 0 dX6_as_65 (by decide) ?_
                  refine j_istore 66 cx [(4, .int 0), (3, .int ((sN S) 2 k)), (0, .ref o), (1, .int (nI k)), (2, .int k0)] dX6_as_66 (by decide) rfl ?_
                  refine j_iload 68 cx 0 dX6_as_68 rfl ?_
                  refine j_if_eq_T 70 cx 82 dX6_as_70 (by decide) (by decide) ?_
                  refine j_aload_n 82 cx 2 dX6_as_82 rfl ?_
                  refine j_ldc 83 cx (v := -1000000003) (List.mem_of_getElem? (i := 2) rfl) dX6_as_83 ?_
                  refine j_callV_i 85 cx 1 [0, 2] [.int (fcode 2)] (fun _ => wMO o am (sP S) la (nI (sL S)) tk be an va bd ++ ([((am 0), .inl (gI G, 51, .inl (mm (sN S))))] ++ [((am 3), .inl (gI G, 7, .inl (upd (sF S) 2 ((sF S) 2 + 1))))])) (c_X6_finds (kl K) G o am (sP S) la (nI (sL S)) tk be an va bd (sF S) 2 (by decide)) gX6_as_X6_finds rfl rfl rfl ⟨rfl, by decide, by decide, rfl⟩ ⟨Nat.le_of_ble_eq_true rfl, Nat.le_of_ble_eq_true rfl⟩ ⟨Nat.zero_le _, Nat.zero_le _⟩ rfl (by decide) (ci := 5) 0 rfl rfl rfl rfl rfl (Nat.le_of_ble_eq_true rfl) dX6_as_85 (fun _ => rfl) (fun zu12 zk12 => ?_)
                  refine j_top (fcode 2) rfl ?_
                  have ze : (sp_as (nI k) k0 S) = bad S 2 := by clear fin cx; unfold sp_as; simp_all [isP_eq hI] <;> (intro zh; exact absurd zh.symm zc4)
                  exact fin () _ _ _ _ dX6_as_88 rfl (by rw [ze] <;> rfl) (by rw [ze] <;> rfl) trivial
                · skip
                  refine j_iconst 61 cx 1 dX6_as_61 (by decide) ?_
                  refine j_goto 62 cx 66 dX6_as_62 (by decide) ?_
                  refine j_istore 66 cx [(4, .int 1), (3, .int ((sN S) 2 k)), (0, .ref o), (1, .int (nI k)), (2, .int k0)] dX6_as_66 (by decide) rfl ?_
                  refine j_iload 68 cx 0 dX6_as_68 rfl ?_
                  refine j_if_eq_F 70 cx 82 dX6_as_70 (by decide) (by decide) ?_
                  refine j_aload_n 73 cx 2 dX6_as_73 rfl ?_
                  refine j_iload_n 74 cx 3 dX6_as_74 rfl ?_
                  refine j_iconst 75 cx 2 dX6_as_75 (by decide) ?_
                  refine j_callV_i 76 cx 2 [0, 1] [.int (nI k), .int 2] (fun _ => wMO o am (sP S) la (nI (sL S)) tk be an va bd ++ ([((am 0), .inl (gI G, 51, .inl (mm (sN S))))] ++ [((am 3), .inl (gI G, 7, .inl (sF S)))])) (c_X6_it (kl K) G o am (sP S) la (nI (sL S)) tk be an va bd (sN S) k 2 (by omega) (by omega) ) gX6_as_X6_it rfl rfl rfl ⟨rfl, by decide, by decide, rfl⟩ ⟨Nat.le_of_ble_eq_true rfl, Nat.le_of_ble_eq_true rfl⟩ ⟨Nat.zero_le _, Nat.zero_le _⟩ rfl (by decide) (ci := 5) 0 rfl rfl rfl rfl rfl (Nat.le_of_ble_eq_true rfl) dX6_as_76 (fun _ => rfl) (fun zu13 zk13 => ?_)
                  refine j_top ((sN S) 4 k) rfl ?_
                  refine j_goto 79 cx 88 dX6_as_79 (by decide) ?_
                  have ze : (sp_as (nI k) k0 S) = ((sN S) 4 k, S) := by clear fin cx; unfold sp_as; simp_all [isP_eq hI] <;> (intro zh; exact absurd zh.symm zc4)
                  exact fin () _ _ _ _ dX6_as_88 rfl (by rw [ze] <;> rfl) (by rw [ze] <;> rfl) trivial
    · skip
      refine j_aload_n 18 cx 0 dX6_as_18 rfl ?_
      refine j_ldc 19 cx (v := -1000000001) (List.mem_of_getElem? (i := 1) rfl) dX6_as_19 ?_
      refine j_callV_i 21 cx 1 [0, 2] [.int (fcode 0)] (fun _ => wMO o am (sP S) la (nI (sL S)) tk be an va bd ++ ([((am 0), .inl (gI G, 51, .inl (mm (sN S))))] ++ [((am 3), .inl (gI G, 7, .inl (upd (sF S) 0 ((sF S) 0 + 1))))])) (c_X6_finds (kl K) G o am (sP S) la (nI (sL S)) tk be an va bd (sF S) 0 (by decide)) gX6_as_X6_finds rfl rfl rfl ⟨rfl, by decide, by decide, rfl⟩ ⟨Nat.le_of_ble_eq_true rfl, Nat.le_of_ble_eq_true rfl⟩ ⟨Nat.zero_le _, Nat.zero_le _⟩ rfl (by decide) (ci := 5) 0 rfl rfl rfl rfl rfl (Nat.le_of_ble_eq_true rfl) dX6_as_21 (fun _ => rfl) (fun zu14 zk14 => ?_)
      refine j_top (fcode 0) rfl ?_
      have ze : (sp_as (nI k) k0 S) = bad S 0 := by clear fin cx; unfold sp_as; simp_all [isP_eq hI] <;> (intro zh; exact absurd zh.symm zc4)
      exact fin () _ _ _ _ dX6_as_24 rfl (by rw [ze] <;> rfl) (by rw [ze] <;> rfl) trivial
