theorem du_out {a j : Nat} (hj : j = duN a) (ha : a ≤ 9999) (h : ¬ nI (a + 60) < nI (a + j)) : nI 9999 < nI (a + j) := by
  have h61 : duN a ≤ 61 := Nat.min_le_left _ _
  rw [nI_ltI (by omega) (by omega)] at h ⊢
  unfold duN at hj
  omega
theorem du_le {a : Nat} (ha : a ≤ 9999) : duN a ≤ 61 ∧ a + duN a ≤ 10000 := by unfold duN; omega
set_option maxRecDepth 100000 in
set_option maxHeartbeats 4000000 in
theorem c_X6_laterM (l : Launch) (G : pG) (o : Nat) (am : Nat → Nat) (S : St) (la tk be an va : Int32) (bd : Bool) (ω : Nu) (hI : Inv (sN S)) (hD : dyN (sN S) ≤ 9999) (m : Nat) (hm : m = 200) (n : Int32) : KI l G yX6_later wsX6_later ({ frames := 9, cells := 0, slots := 0, locals := 201 } : Room) [.ref o, .int n] (wMO o am (sP S) la (nI (sL S)) tk be an va bd ++ ([((am 0), .inl (gI G, 51, .inl (mm (sN S))))] ++ ([((am 3), .inl (gI G, 7, .inl (sF S)))] ++ [((am 2), .inl (gI G, 51, .inl (mm ω)))]))) (S := (Int32 × Nu)) (fun _ => True) (fun u => (sp_laterM m n S).1) (fun u => wMO o am (sP S) (u.1) (nI (sL S)) tk be an va bd ++ ([((am 0), .inl (gI G, 51, .inl (mm (sN (sp_laterM m n S).2))))] ++ ([((am 3), .inl (gI G, 7, .inl (sF (sp_laterM m n S).2)))] ++ [((am 2), .inl (gI G, 51, .inl (mm u.2)))]))) := by
  refine ki_of [(0, .ref o), (1, .int n)] (own := RX6) (cc := cX6_later) (nL := 6) (by decide +kernel) rfl rfl (Nat.le_of_ble_eq_true rfl) rfl (fun _ => rfl) (fun K cx fin => ?_)
  refine j_iload_n 0 cx 1 dX6_later_0 rfl ?_
  refine j_i2l 1 cx dX6_later_1 ?_
  refine j_iconst 2 cx 1 dX6_later_2 (by decide) ?_
  refine j_bipush 3 cx 60 dX6_later_3 (by decide) ?_
  refine j_callS_i 5 cx 3 [] [.long (n.toInt64), .int 1, .int 60] (fun _ => wMO o am (sP S) la (nI (sL S)) tk be an va bd ++ ([((am 0), .inl (gI G, 51, .inl (mm (sN S))))] ++ ([((am 3), .inl (gI G, 7, .inl (sF S)))] ++ [((am 2), .inl (gI G, 51, .inl (mm ω)))]))) (c_X6_in (kl K) G (n.toInt64) 1 60) gX6_later_X6_in rfl rfl rfl ⟨by decide, by decide, rfl⟩ ⟨Nat.le_of_ble_eq_true rfl, Nat.le_of_ble_eq_true rfl⟩ ⟨Nat.zero_le _, Nat.zero_le _⟩ rfl (by decide) rfl rfl (Nat.le_of_ble_eq_true rfl) dX6_later_5 (fun _ => rfl) (fun zu1 zk1 => ?_)
  refine j_top (bI (inL (n.toInt64) 1 60)) rfl ?_
  refine j_top (bI (inI n 1 60)) (congrArg bI (inL_i n 1 60)) ?_
  refine j_ifB_ne 8 cx 18 dX6_later_8 (by decide) (fun zc1 => ?_) (fun zc1 => ?_)
  · skip
    have hn99 : 0 ≤ n.toInt ∧ n.toInt ≤ 99 := by obtain ⟨kn, h1, h2, h3⟩ := in_c (L := 1) (M := 60) (a := 1) (m := 60) rfl rfl zc1; rw [h3]; exact nI_99 (by omega)
    have h8 := hI.sz8
    refine j_aload_n 18 cx 0 dX6_later_18 rfl ?_
    refine j_callV_v 19 cx 0 [0, 1, 3] [] (fun _ => wMO o am (sP S) la (nI (sL S)) tk be an va bd ++ ([((am 0), .inl (gI G, 51, .inl (mm (sN S))))] ++ ([((am 3), .inl (gI G, 7, .inl (sF S)))] ++ [((am 2), .inl (gI G, 51, .inl (mm (sN S))))]))) (c_X6_thinks (kl K) G o am (sP S) la (nI (sL S)) tk be an va bd (sN S) ω) gX6_later_X6_thinks rfl rfl rfl ⟨rfl, by decide, by decide, rfl⟩ ⟨Nat.le_of_ble_eq_true rfl, Nat.le_of_ble_eq_true rfl⟩ ⟨Nat.zero_le _, Nat.zero_le _⟩ rfl (by decide) (ci := 5) 0 rfl rfl rfl rfl rfl (Nat.le_of_ble_eq_true rfl) dX6_later_19 (fun _ => rfl) (fun zu2 zk2 => ?_)
    refine j_aload_n 22 cx 0 dX6_later_22 rfl ?_
    refine j_sipush 23 cx 200 dX6_later_23 (by decide) ?_
    refine j_top (nI m) (by rw [hm]; rfl) ?_
    refine j_callV_i 26 cx 1 [0, 1, 3] [.int (nI m)] (fun zl1 => wMO o am (sP S) zl1 (nI (sL S)) tk be an va bd ++ ([((am 0), .inl (gI G, 51, .inl (mm (sN S))))] ++ ([((am 3), .inl (gI G, 7, .inl (sF S)))] ++ [((am 2), .inl (gI G, 51, .inl (mm (sN S))))]))) (c_X6_lateOn (kl K) G o am (sP S) la (nI (sL S)) tk be an va bd (sN S) (sN S) hI m (by have := hD; omega)) gX6_later_X6_lateOn rfl rfl rfl ⟨rfl, by decide, by decide, rfl⟩ ⟨Nat.le_of_ble_eq_true rfl, Nat.le_of_ble_eq_true rfl⟩ ⟨Nat.zero_le _, Nat.zero_le _⟩ rfl (by decide) (ci := 5) 0 rfl rfl rfl rfl rfl (Nat.le_of_ble_eq_true rfl) dX6_later_26 (fun _ => rfl) (fun zl1 zk3 => ?_)
    refine j_top (daysF (sN S) m 0 2) rfl ?_
    refine j_istore_n 29 cx [(2, .int (daysF (sN S) m 0 2)), (0, .ref o), (1, .int n)] dX6_later_29 (by decide) rfl ?_
    refine j_iconst 30 cx (-1) dX6_later_30 (by decide) ?_
    refine j_istore_n 31 cx [(3, .int ((-1))), (2, .int (daysF (sN S) m 0 2)), (0, .ref o), (1, .int n)] dX6_later_31 (by decide) rfl ?_
    refine j_iconst 32 cx 0 dX6_later_32 (by decide) ?_
    refine j_istore 33 cx [(4, .int 0), (3, .int ((-1))), (2, .int (daysF (sN S) m 0 2)), (0, .ref o), (1, .int n)] dX6_later_33 (by decide) rfl ?_
    have L35 : ∀ d : Nat, ∀ (j : Nat) (zl : Int32), (j + d = szN (sN S)) → JJ G K 0 0 (wMO o am (sP S) zl (nI (sL S)) tk be an va bd ++ ([((am 0), .inl (gI G, 51, .inl (mm (sN S))))] ++ ([((am 3), .inl (gI G, 7, .inl (sF S)))] ++ [((am 2), .inl (gI G, 51, .inl (mm (sN S))))]))) [(4, .int (nI j)), (3, .int ((bstI (lateF m (sN S) n) (daysF (sN S) m 0 2) j).2)), (2, .int ((bstI (lateF m (sN S) n) (daysF (sN S) m 0 2) j).1)), (1, .int n), (0, .ref o)] 35 [] := by
      intro d
      induction d with
      | zero =>
        intro j zl hj
        refine j_iload 35 cx 0 dX6_later_35 rfl ?_
        refine j_aload_n 37 cx 4 dX6_later_37 rfl ?_
        refine j_get 38 cx 0 0 (T := TX6) (v := .ref ((am 0))) (fun _ h => List.mem_cons_of_mem _ (List.mem_append_right _ (h))) (List.mem_of_getElem? (i := 2) rfl) (ci := 5) rfl (by decide) rfl rfl rfl dX6_later_38 ?_
        refine j_iconst 41 cx 3 dX6_later_41 (by decide) ?_
        refine j_iald 42 cx 1 3 rfl rfl (by omega) (by decide) dX6_later_42 ?_
        refine j_top ((sN S) 0 3) rfl ?_
        refine j_top (nI (szN (sN S))) hI.sz ?_
        refine j_icmp_ge_T 43 cx 95 dX6_later_43 (by decide) (nI_le (by omega) (by omega)) ?_
        refine j_aload_n 95 cx 4 dX6_later_95 rfl ?_
        refine j_iload_n 96 cx 1 dX6_later_96 rfl ?_
        refine j_callV_i 97 cx 1 [0, 2] [.int ((bstI (lateF m (sN S) n) (daysF (sN S) m 0 2) j).2)] (fun _ => wMO o am (sP S) zl (nI (sL S)) tk be an va bd ++ ([((am 0), .inl (gI G, 51, .inl (mm (sN S))))] ++ ([((am 3), .inl (gI G, 7, .inl (oF ((bstI (lateF m (sN S) n) (daysF (sN S) m 0 2) j).2) (sF S))))] ++ [((am 2), .inl (gI G, 51, .inl (mm (sN S))))]))) (c_X6_orNone (kl K) G o am (sP S) zl (nI (sL S)) tk be an va bd (sF S) ((bstI (lateF m (sN S) n) (daysF (sN S) m 0 2) j).2)) gX6_later_X6_orNone rfl rfl rfl ⟨rfl, by decide, by decide, rfl⟩ ⟨Nat.le_of_ble_eq_true rfl, Nat.le_of_ble_eq_true rfl⟩ ⟨Nat.zero_le _, Nat.zero_le _⟩ rfl (by decide) (ci := 5) 0 rfl rfl rfl rfl rfl (Nat.le_of_ble_eq_true rfl) dX6_later_97 (fun _ => rfl) (fun zu4 zk4 => ?_)
        refine j_top (oN ((bstI (lateF m (sN S) n) (daysF (sN S) m 0 2) j).2)) rfl ?_
        have ze : (sp_laterM m n S) = (oN ((bstI (lateF m (sN S) n) (daysF (sN S) m 0 2) j).2), stF S (oF ((bstI (lateF m (sN S) n) (daysF (sN S) m 0 2) j).2) (sF S))) := by unfold sp_laterM; rw [if_pos zc1, show szN (sN S) = j from by omega]; exact orB_eq _ _
        exact fin (zl, (sN S)) _ _ _ _ dX6_later_100 rfl (by rw [ze] <;> rfl) (by rw [ze] <;> rfl) trivial
      | succ d ih35 =>
        intro j zl hj
        refine j_iload 35 cx 0 dX6_later_35 rfl ?_
        refine j_aload_n 37 cx 4 dX6_later_37 rfl ?_
        refine j_get 38 cx 0 0 (T := TX6) (v := .ref ((am 0))) (fun _ h => List.mem_cons_of_mem _ (List.mem_append_right _ (h))) (List.mem_of_getElem? (i := 2) rfl) (ci := 5) rfl (by decide) rfl rfl rfl dX6_later_38 ?_
        refine j_iconst 41 cx 3 dX6_later_41 (by decide) ?_
        refine j_iald 42 cx 1 3 rfl rfl (by omega) (by decide) dX6_later_42 ?_
        refine j_top ((sN S) 0 3) rfl ?_
        refine j_top (nI (szN (sN S))) hI.sz ?_
        refine j_icmp_ge_F 43 cx 95 dX6_later_43 (by decide) (nI_ge (by omega) (by omega)) ?_
        refine j_aload_n 46 cx 4 dX6_later_46 rfl ?_
        refine j_iload 47 cx 0 dX6_later_47 rfl ?_
        refine j_iconst 49 cx 4 dX6_later_49 (by decide) ?_
        refine j_iload_n 50 cx 3 dX6_later_50 rfl ?_
        refine j_callV_v 51 cx 3 [0, 1] [.int (nI j), .int 4, .int n] (fun _ => wMO o am (sP S) zl (nI (sL S)) tk be an va bd ++ ([((am 0), .inl (gI G, 51, .inl (mm (up2 (sN S) 6 j n))))] ++ ([((am 3), .inl (gI G, 7, .inl (sF S)))] ++ [((am 2), .inl (gI G, 51, .inl (mm (sN S))))]))) (c_X6_put (kl K) G o am (sP S) zl (nI (sL S)) tk be an va bd (sN S) j 4 n (by omega) (by omega)) gX6_later_X6_put rfl rfl rfl ⟨rfl, by decide, by decide, rfl⟩ ⟨Nat.le_of_ble_eq_true rfl, Nat.le_of_ble_eq_true rfl⟩ ⟨Nat.zero_le _, Nat.zero_le _⟩ rfl (by decide) (ci := 5) 0 rfl rfl rfl rfl rfl (Nat.le_of_ble_eq_true rfl) dX6_later_51 (fun _ => rfl) (fun zu5 zk5 => ?_)
        refine j_aload_n 54 cx 4 dX6_later_54 rfl ?_
        refine j_sipush 55 cx 200 dX6_later_55 (by decide) ?_
        refine j_top (nI m) (by rw [hm]; rfl) ?_
        refine j_callV_i 58 cx 1 [0, 1, 3] [.int (nI m)] (fun zl2 => wMO o am (sP S) zl2 (nI (sL S)) tk be an va bd ++ ([((am 0), .inl (gI G, 51, .inl (mm (sN S))))] ++ ([((am 3), .inl (gI G, 7, .inl (sF S)))] ++ [((am 2), .inl (gI G, 51, .inl (mm (sN S))))]))) (c_X6_lateOn (kl K) G o am (sP S) zl (nI (sL S)) tk be an va bd (up2 (sN S) 6 j n) (sN S) (inv_up6 hI j hn99) m (by have h9 : dyN (up2 (sN S) 6 j n) ≤ 9999 := hD; omega)) gX6_later_X6_lateOn rfl rfl rfl ⟨rfl, by decide, by decide, rfl⟩ ⟨Nat.le_of_ble_eq_true rfl, Nat.le_of_ble_eq_true rfl⟩ ⟨Nat.zero_le _, Nat.zero_le _⟩ rfl (by decide) (ci := 5) 0 rfl rfl rfl rfl rfl (Nat.le_of_ble_eq_true rfl) dX6_later_58 (fun _ => rfl) (fun zl2 zk6 => ?_)
        refine j_top (daysF (up2 (sN S) 6 j n) m 0 2) rfl ?_
        refine j_istore 61 cx [(5, .int (daysF (up2 (sN S) 6 j n) m 0 2)), (4, .int (nI j)), (3, .int ((bstI (lateF m (sN S) n) (daysF (sN S) m 0 2) j).2)), (2, .int ((bstI (lateF m (sN S) n) (daysF (sN S) m 0 2) j).1)), (1, .int n), (0, .ref o)] dX6_later_61 (by decide) rfl ?_
        refine j_iload 63 cx 0 dX6_later_63 rfl ?_
        refine j_iload_n 65 cx 3 dX6_later_65 rfl ?_
        refine j_icmp_ge 66 cx 74 dX6_later_66 (by decide) (fun zc2 => ?_) (fun zc2 => ?_)
        · skip
          refine j_iload_n 74 cx 2 dX6_later_74 rfl ?_
          refine j_istore_n 75 cx [(3, .int ((bstI (lateF m (sN S) n) (daysF (sN S) m 0 2) j).2)), (5, .int (daysF (up2 (sN S) 6 j n) m 0 2)), (4, .int (nI j)), (2, .int ((bstI (lateF m (sN S) n) (daysF (sN S) m 0 2) j).1)), (1, .int n), (0, .ref o)] dX6_later_75 (by decide) rfl ?_
          refine j_iload 76 cx 1 dX6_later_76 rfl ?_
          refine j_iload_n 78 cx 3 dX6_later_78 rfl ?_
          refine j_icmp_ge_T 79 cx 87 dX6_later_79 (by decide) zc2 ?_
          refine j_iload_n 87 cx 3 dX6_later_87 rfl ?_
          refine j_istore_n 88 cx [(2, .int ((bstI (lateF m (sN S) n) (daysF (sN S) m 0 2) j).1)), (3, .int ((bstI (lateF m (sN S) n) (daysF (sN S) m 0 2) j).2)), (5, .int (daysF (up2 (sN S) 6 j n) m 0 2)), (4, .int (nI j)), (1, .int n), (0, .ref o)] dX6_later_88 (by decide) rfl ?_
          refine j_iinc 89 cx [(4, .int (nI (j + 1))), (2, .int ((bstI (lateF m (sN S) n) (daysF (sN S) m 0 2) j).1)), (3, .int ((bstI (lateF m (sN S) n) (daysF (sN S) m 0 2) j).2)), (5, .int (daysF (up2 (sN S) 6 j n) m 0 2)), (1, .int n), (0, .ref o)] 3 (nI (j + 1)) dX6_later_89 rfl (iinc1 j) (by decide) rfl ?_
          refine j_goto 92 cx 35 dX6_later_92 (by decide) ?_
          refine j_lv [0, 2, 1, 4, 5] rfl ?_
          have h9 := ih35 (j + 1) zl2 (by omega)
          rw [bstI_f (f := (lateF m (sN S) n)) zc2] at h9
          exact h9
        · skip
          refine j_iload 69 cx 1 dX6_later_69 rfl ?_
          refine j_goto 71 cx 75 dX6_later_71 (by decide) ?_
          refine j_istore_n 75 cx [(3, .int (nI j)), (5, .int (daysF (up2 (sN S) 6 j n) m 0 2)), (4, .int (nI j)), (2, .int ((bstI (lateF m (sN S) n) (daysF (sN S) m 0 2) j).1)), (1, .int n), (0, .ref o)] dX6_later_75 (by decide) rfl ?_
          refine j_iload 76 cx 1 dX6_later_76 rfl ?_
          refine j_iload_n 78 cx 3 dX6_later_78 rfl ?_
          refine j_icmp_ge_F 79 cx 87 dX6_later_79 (by decide) zc2 ?_
          refine j_iload 82 cx 1 dX6_later_82 rfl ?_
          refine j_goto 84 cx 88 dX6_later_84 (by decide) ?_
          refine j_istore_n 88 cx [(2, .int (daysF (up2 (sN S) 6 j n) m 0 2)), (3, .int (nI j)), (5, .int (daysF (up2 (sN S) 6 j n) m 0 2)), (4, .int (nI j)), (1, .int n), (0, .ref o)] dX6_later_88 (by decide) rfl ?_
          refine j_iinc 89 cx [(4, .int (nI (j + 1))), (2, .int (daysF (up2 (sN S) 6 j n) m 0 2)), (3, .int (nI j)), (5, .int (daysF (up2 (sN S) 6 j n) m 0 2)), (1, .int n), (0, .ref o)] 3 (nI (j + 1)) dX6_later_89 rfl (iinc1 j) (by decide) rfl ?_
          refine j_goto 92 cx 35 dX6_later_92 (by decide) ?_
          refine j_lv [0, 2, 1, 4, 5] rfl ?_
          have h9 := ih35 (j + 1) zl2 (by omega)
          rw [bstI_t (f := (lateF m (sN S) n)) zc2] at h9
          exact h9
    refine j_lv [0, 1, 2, 4, 3] rfl ?_
    exact L35 (szN (sN S)) 0 zl1 (by omega)
  · skip
    refine j_aload_n 11 cx 0 dX6_later_11 rfl ?_
    refine j_ldc 12 cx (v := -1000000001) (List.mem_of_getElem? (i := 1) rfl) dX6_later_12 ?_
    refine j_callV_i 14 cx 1 [0, 2] [.int (fcode 0)] (fun _ => wMO o am (sP S) la (nI (sL S)) tk be an va bd ++ ([((am 0), .inl (gI G, 51, .inl (mm (sN S))))] ++ ([((am 3), .inl (gI G, 7, .inl (upd (sF S) 0 ((sF S) 0 + 1))))] ++ [((am 2), .inl (gI G, 51, .inl (mm ω)))]))) (c_X6_finds (kl K) G o am (sP S) la (nI (sL S)) tk be an va bd (sF S) 0 (by decide)) gX6_later_X6_finds rfl rfl rfl ⟨rfl, by decide, by decide, rfl⟩ ⟨Nat.le_of_ble_eq_true rfl, Nat.le_of_ble_eq_true rfl⟩ ⟨Nat.zero_le _, Nat.zero_le _⟩ rfl (by decide) (ci := 5) 0 rfl rfl rfl rfl rfl (Nat.le_of_ble_eq_true rfl) dX6_later_14 (fun _ => rfl) (fun zu7 zk7 => ?_)
    refine j_top (fcode 0) rfl ?_
    have ze : (sp_laterM m n S) = bad S 0 := by unfold sp_laterM; simp [isP_eq hI, bI_t, bI_f, zc1]
    exact fin (la, ω) _ _ _ _ dX6_later_17 rfl (by rw [ze] <;> rfl) (by rw [ze] <;> rfl) trivial
theorem c_X6_later (l : Launch) (G : pG) (o : Nat) (am : Nat → Nat) (S : St) (la tk be an va : Int32) (bd : Bool) (ω : Nu) (hI : Inv (sN S)) (hD : dyN (sN S) ≤ 9999)  (n : Int32) : KI l G yX6_later wsX6_later ({ frames := 9, cells := 0, slots := 0, locals := 201 } : Room) [.ref o, .int n] (wMO o am (sP S) la (nI (sL S)) tk be an va bd ++ ([((am 0), .inl (gI G, 51, .inl (mm (sN S))))] ++ ([((am 3), .inl (gI G, 7, .inl (sF S)))] ++ [((am 2), .inl (gI G, 51, .inl (mm ω)))]))) (S := Int32 × Nu) (fun _ => True) (fun _ => (sp_later n S).1) (fun u => wMO o am (sP S) (u.1) (nI (sL S)) tk be an va bd ++ ([((am 0), .inl (gI G, 51, .inl (mm (sN (sp_later n S).2))))] ++ ([((am 3), .inl (gI G, 7, .inl (sF (sp_later n S).2)))] ++ [((am 2), .inl (gI G, 51, .inl (mm u.2)))]))) := c_X6_laterM l G o am S la tk be an va bd ω hI hD 200 rfl n
set_option maxRecDepth 100000 in
set_option maxHeartbeats 4000000 in
theorem c_X6_kind (l : Launch) (G : pG) (o : Nat) (am : Nat → Nat) (S : St) (la tk be an va : Int32) (bd : Bool) (ω : Nu) (hI : Inv (sN S)) (hD : dyN (sN S) ≤ 9999) (p : Int32) : KI l G yX6_kind wsX6_kind ({ frames := 8, cells := 0, slots := 0, locals := 180 } : Room) [.ref o, .int p] (wMO o am (sP S) la (nI (sL S)) tk be an va bd ++ ([((am 0), .inl (gI G, 51, .inl (mm (sN S))))] ++ ([((am 3), .inl (gI G, 7, .inl (sF S)))] ++ [((am 2), .inl (gI G, 51, .inl (mm ω)))]))) (S := (Int32 × Nu)) (fun _ => True) (fun u => (sp_kind p S).1) (fun u => wMO o am (sP S) (u.1) (nI (sL S)) tk be an va bd ++ ([((am 0), .inl (gI G, 51, .inl (mm (sN (sp_kind p S).2))))] ++ ([((am 3), .inl (gI G, 7, .inl (sF (sp_kind p S).2)))] ++ [((am 2), .inl (gI G, 51, .inl (mm u.2)))]))) := by
  refine ki_of [(0, .ref o), (1, .int p)] (own := RX6) (cc := cX6_kind) (nL := 7) (by decide +kernel) rfl rfl (Nat.le_of_ble_eq_true rfl) rfl (fun _ => rfl) (fun K cx fin => ?_)
  refine j_aload_n 0 cx 0 dX6_kind_0 rfl ?_
  refine j_iload_n 1 cx 1 dX6_kind_1 rfl ?_
  refine j_callV_i 2 cx 1 [0, 1] [.int p] (fun _ => wMO o am (sP S) la (nI (sL S)) tk be an va bd ++ ([((am 0), .inl (gI G, 51, .inl (mm (sN S))))] ++ ([((am 3), .inl (gI G, 7, .inl (sF S)))] ++ [((am 2), .inl (gI G, 51, .inl (mm ω)))]))) (c_X6_isPart (kl K) G o am (sP S) la (nI (sL S)) tk be an va bd (sN S) p hI ) gX6_kind_X6_isPart rfl rfl rfl ⟨rfl, by decide, by decide, rfl⟩ ⟨Nat.le_of_ble_eq_true rfl, Nat.le_of_ble_eq_true rfl⟩ ⟨Nat.zero_le _, Nat.zero_le _⟩ rfl (by decide) (ci := 5) 0 rfl rfl rfl rfl rfl (Nat.le_of_ble_eq_true rfl) dX6_kind_2 (fun _ => rfl) (fun zu1 zk1 => ?_)
  refine j_top (bI (inI p 0 (nI (szN (sN S)) - 1))) rfl ?_
  refine j_ifB_ne 5 cx 15 dX6_kind_5 (by decide) (fun zc1 => ?_) (fun zc1 => ?_)
  · skip
    obtain ⟨k, hk, rfl⟩ := in_n (by have := hI.sz8; omega) zc1
    have h8 := hI.sz8
    have hkc : (nI k).toNatClampNeg = k := nI_clamp (by omega)
    refine j_aload_n 15 cx 0 dX6_kind_15 rfl ?_
    refine j_callV_v 16 cx 0 [0, 1, 3] [] (fun _ => wMO o am (sP S) la (nI (sL S)) tk be an va bd ++ ([((am 0), .inl (gI G, 51, .inl (mm (sN S))))] ++ ([((am 3), .inl (gI G, 7, .inl (sF S)))] ++ [((am 2), .inl (gI G, 51, .inl (mm (sN S))))]))) (c_X6_thinks (kl K) G o am (sP S) la (nI (sL S)) tk be an va bd (sN S) ω) gX6_kind_X6_thinks rfl rfl rfl ⟨rfl, by decide, by decide, rfl⟩ ⟨Nat.le_of_ble_eq_true rfl, Nat.le_of_ble_eq_true rfl⟩ ⟨Nat.zero_le _, Nat.zero_le _⟩ rfl (by decide) (ci := 5) 0 rfl rfl rfl rfl rfl (Nat.le_of_ble_eq_true rfl) dX6_kind_16 (fun _ => rfl) (fun zu2 zk2 => ?_)
    refine j_iconst 19 cx (-1) dX6_kind_19 (by decide) ?_
    refine j_istore_n 20 cx [(2, .int ((-1))), (0, .ref o), (1, .int (nI k))] dX6_kind_20 (by decide) rfl ?_
    refine j_sipush 21 cx 401 dX6_kind_21 (by decide) ?_
    refine j_istore_n 24 cx [(3, .int 401), (2, .int ((-1))), (0, .ref o), (1, .int (nI k))] dX6_kind_24 (by decide) rfl ?_
    refine j_iconst 25 cx 0 dX6_kind_25 (by decide) ?_
    refine j_istore 26 cx [(4, .int 0), (3, .int 401), (2, .int ((-1))), (0, .ref o), (1, .int (nI k))] dX6_kind_26 (by decide) rfl ?_
    have L28 : ∀ d : Nat, ∀ (j : Nat) (zl : Int32), (j + d = 6) → JJ G K 0 0 (wMO o am (sP S) zl (nI (sL S)) tk be an va bd ++ ([((am 0), .inl (gI G, 51, .inl (mm (sN S))))] ++ ([((am 3), .inl (gI G, 7, .inl (sF S)))] ++ [((am 2), .inl (gI G, 51, .inl (mm (sN S))))]))) [(4, .int (nI j)), (3, .int (nI (bstK (sN S) k j).1)), (2, .int ((bstK (sN S) k j).2)), (1, .int (nI k)), (0, .ref o)] 28 [] := by
      intro d
      induction d with
      | zero =>
        intro j zl hj
        refine j_iload 28 cx 0 dX6_kind_28 rfl ?_
        refine j_iconst 30 cx 5 dX6_kind_30 (by decide) ?_
        refine j_icmp_gt_T 31 cx 100 dX6_kind_31 (by decide) (nI_lt (a := 5) (by omega) (by omega)) ?_
        refine j_aload_n 100 cx 4 dX6_kind_100 rfl ?_
        refine j_iload_n 101 cx 2 dX6_kind_101 rfl ?_
        refine j_callV_i 102 cx 1 [0, 2] [.int ((bstK (sN S) k j).2)] (fun _ => wMO o am (sP S) zl (nI (sL S)) tk be an va bd ++ ([((am 0), .inl (gI G, 51, .inl (mm (sN S))))] ++ ([((am 3), .inl (gI G, 7, .inl (oF ((bstK (sN S) k j).2) (sF S))))] ++ [((am 2), .inl (gI G, 51, .inl (mm (sN S))))]))) (c_X6_orNone (kl K) G o am (sP S) zl (nI (sL S)) tk be an va bd (sF S) ((bstK (sN S) k j).2)) gX6_kind_X6_orNone rfl rfl rfl ⟨rfl, by decide, by decide, rfl⟩ ⟨Nat.le_of_ble_eq_true rfl, Nat.le_of_ble_eq_true rfl⟩ ⟨Nat.zero_le _, Nat.zero_le _⟩ rfl (by decide) (ci := 5) 0 rfl rfl rfl rfl rfl (Nat.le_of_ble_eq_true rfl) dX6_kind_102 (fun _ => rfl) (fun zu3 zk3 => ?_)
        refine j_top (oN ((bstK (sN S) k j).2)) rfl ?_
        have ze : (sp_kind (nI k) S) = (oN ((bstK (sN S) k j).2), stF S (oF ((bstK (sN S) k j).2) (sF S))) := by unfold sp_kind; rw [isP_eq hI, if_pos zc1, show pN (nI k) = k from hkc, show 6 = j from by omega]; exact orB_eq _ _
        exact fin (zl, (sN S)) _ _ _ _ dX6_kind_105 rfl (by rw [ze] <;> rfl) (by rw [ze] <;> rfl) trivial
      | succ d ih28 =>
        intro j zl hj
        refine j_iload 28 cx 0 dX6_kind_28 rfl ?_
        refine j_iconst 30 cx 5 dX6_kind_30 (by decide) ?_
        refine j_icmp_gt_F 31 cx 100 dX6_kind_31 (by decide) (nI_nlt (a := 5) (by omega) (by omega)) ?_
        refine j_aload_n 34 cx 4 dX6_kind_34 rfl ?_
        refine j_iload_n 35 cx 3 dX6_kind_35 rfl ?_
        refine j_iconst 36 cx 0 dX6_kind_36 (by decide) ?_
        refine j_iload 37 cx 0 dX6_kind_37 rfl ?_
        refine j_callV_v 39 cx 3 [0, 1] [.int (nI k), .int 0, .int (nI j)] (fun _ => wMO o am (sP S) zl (nI (sL S)) tk be an va bd ++ ([((am 0), .inl (gI G, 51, .inl (mm (up2 (sN S) 2 k (nI j)))))] ++ ([((am 3), .inl (gI G, 7, .inl (sF S)))] ++ [((am 2), .inl (gI G, 51, .inl (mm (sN S))))]))) (c_X6_put (kl K) G o am (sP S) zl (nI (sL S)) tk be an va bd (sN S) k 0 (nI j) (by omega) (by omega)) gX6_kind_X6_put rfl rfl rfl ⟨rfl, by decide, by decide, rfl⟩ ⟨Nat.le_of_ble_eq_true rfl, Nat.le_of_ble_eq_true rfl⟩ ⟨Nat.zero_le _, Nat.zero_le _⟩ rfl (by decide) (ci := 5) 0 rfl rfl rfl rfl rfl (Nat.le_of_ble_eq_true rfl) dX6_kind_39 (fun _ => rfl) (fun zu4 zk4 => ?_)
        refine j_aload_n 42 cx 4 dX6_kind_42 rfl ?_
        refine j_iload_n 43 cx 3 dX6_kind_43 rfl ?_
        refine j_sipush 44 cx 400 dX6_kind_44 (by decide) ?_
        refine j_callV_i 47 cx 2 [0, 1, 3] [.int (nI k), .int 400] (fun zl1 => wMO o am (sP S) zl1 (nI (sL S)) tk be an va bd ++ ([((am 0), .inl (gI G, 51, .inl (mm (sN S))))] ++ ([((am 3), .inl (gI G, 7, .inl (sF S)))] ++ [((am 2), .inl (gI G, 51, .inl (mm (sN S))))]))) (c_X6_doneIn (kl K) G o am (sP S) zl (nI (sL S)) tk be an va bd (up2 (sN S) 2 k (nI j)) (sN S) (inv_upx hI 2 k (nI j) (by omega)) k (by omega) 400 (by omega) (by have h9 : dyN (up2 (sN S) 2 k (nI j)) ≤ 9999 := hD; omega)) gX6_kind_X6_doneIn rfl rfl rfl ⟨rfl, by decide, by decide, rfl⟩ ⟨Nat.le_of_ble_eq_true rfl, Nat.le_of_ble_eq_true rfl⟩ ⟨Nat.zero_le _, Nat.zero_le _⟩ rfl (by decide) (ci := 5) 0 rfl rfl rfl rfl rfl (Nat.le_of_ble_eq_true rfl) dX6_kind_47 (fun _ => rfl) (fun zl1 zk5 => ?_)
        refine j_top (tM 400 (till (gDone k) 400 (up2 (sN S) 2 k (nI j)))) rfl ?_
        refine j_istore 50 cx [(5, .int (tM 400 (till (gDone k) 400 (up2 (sN S) 2 k (nI j))))), (4, .int (nI j)), (3, .int (nI (bstK (sN S) k j).1)), (2, .int ((bstK (sN S) k j).2)), (1, .int (nI k)), (0, .ref o)] dX6_kind_50 (by decide) rfl ?_
        refine j_iload 52 cx 0 dX6_kind_52 rfl ?_
        refine j_if_lt 54 cx 67 dX6_kind_54 (by decide) (fun zc2 => ?_) (fun zc2 => ?_)
        · skip
          refine j_iconst 67 cx 0 dX6_kind_67 (by decide) ?_
          refine j_istore 68 cx [(6, .int 0), (5, .int (tM 400 (till (gDone k) 400 (up2 (sN S) 2 k (nI j))))), (4, .int (nI j)), (3, .int (nI (bstK (sN S) k j).1)), (2, .int ((bstK (sN S) k j).2)), (1, .int (nI k)), (0, .ref o)] dX6_kind_68 (by decide) rfl ?_
          refine j_iload 70 cx 0 dX6_kind_70 rfl ?_
          refine j_if_eq_T 72 cx 80 dX6_kind_72 (by decide) (by decide) ?_
          refine j_iload_n 80 cx 4 dX6_kind_80 rfl ?_
          refine j_istore_n 81 cx [(2, .int ((bstK (sN S) k j).2)), (6, .int 0), (5, .int (tM 400 (till (gDone k) 400 (up2 (sN S) 2 k (nI j))))), (4, .int (nI j)), (3, .int (nI (bstK (sN S) k j).1)), (1, .int (nI k)), (0, .ref o)] dX6_kind_81 (by decide) rfl ?_
          refine j_iload 82 cx 1 dX6_kind_82 rfl ?_
          refine j_if_eq_T 84 cx 92 dX6_kind_84 (by decide) (by decide) ?_
          refine j_iload_n 92 cx 4 dX6_kind_92 rfl ?_
          refine j_istore_n 93 cx [(3, .int (nI (bstK (sN S) k j).1)), (2, .int ((bstK (sN S) k j).2)), (6, .int 0), (5, .int (tM 400 (till (gDone k) 400 (up2 (sN S) 2 k (nI j))))), (4, .int (nI j)), (1, .int (nI k)), (0, .ref o)] dX6_kind_93 (by decide) rfl ?_
          refine j_iinc 94 cx [(4, .int (nI (j + 1))), (3, .int (nI (bstK (sN S) k j).1)), (2, .int ((bstK (sN S) k j).2)), (6, .int 0), (5, .int (tM 400 (till (gDone k) 400 (up2 (sN S) 2 k (nI j))))), (1, .int (nI k)), (0, .ref o)] 4 (nI (j + 1)) dX6_kind_94 rfl (iinc1 j) (by decide) rfl ?_
          refine j_goto 97 cx 28 dX6_kind_97 (by decide) ?_
          refine j_lv [0, 1, 2, 5, 6] rfl ?_
          have h9 := ih28 (j + 1) zl1 (by omega)
          rw [show bstK (sN S) k (j + 1) = (bstK (sN S) k j) from bst_skipN (m := 400) (by omega) (by omega) (kindT_le _ _) zc2] at h9
          exact h9
        · skip
          refine j_iload 57 cx 0 dX6_kind_57 rfl ?_
          refine j_iload_n 59 cx 2 dX6_kind_59 rfl ?_
          refine j_icmp_ge 60 cx 67 dX6_kind_60 (by decide) (fun zc3 => ?_) (fun zc3 => ?_)
          · skip
            refine j_iconst 67 cx 0 dX6_kind_67 (by decide) ?_
            refine j_istore 68 cx [(6, .int 0), (5, .int (tM 400 (till (gDone k) 400 (up2 (sN S) 2 k (nI j))))), (4, .int (nI j)), (3, .int (nI (bstK (sN S) k j).1)), (2, .int ((bstK (sN S) k j).2)), (1, .int (nI k)), (0, .ref o)] dX6_kind_68 (by decide) rfl ?_
            refine j_iload 70 cx 0 dX6_kind_70 rfl ?_
            refine j_if_eq_T 72 cx 80 dX6_kind_72 (by decide) (by decide) ?_
            refine j_iload_n 80 cx 4 dX6_kind_80 rfl ?_
            refine j_istore_n 81 cx [(2, .int ((bstK (sN S) k j).2)), (6, .int 0), (5, .int (tM 400 (till (gDone k) 400 (up2 (sN S) 2 k (nI j))))), (4, .int (nI j)), (3, .int (nI (bstK (sN S) k j).1)), (1, .int (nI k)), (0, .ref o)] dX6_kind_81 (by decide) rfl ?_
            refine j_iload 82 cx 1 dX6_kind_82 rfl ?_
            refine j_if_eq_T 84 cx 92 dX6_kind_84 (by decide) (by decide) ?_
            refine j_iload_n 92 cx 4 dX6_kind_92 rfl ?_
            refine j_istore_n 93 cx [(3, .int (nI (bstK (sN S) k j).1)), (2, .int ((bstK (sN S) k j).2)), (6, .int 0), (5, .int (tM 400 (till (gDone k) 400 (up2 (sN S) 2 k (nI j))))), (4, .int (nI j)), (1, .int (nI k)), (0, .ref o)] dX6_kind_93 (by decide) rfl ?_
            refine j_iinc 94 cx [(4, .int (nI (j + 1))), (3, .int (nI (bstK (sN S) k j).1)), (2, .int ((bstK (sN S) k j).2)), (6, .int 0), (5, .int (tM 400 (till (gDone k) 400 (up2 (sN S) 2 k (nI j))))), (1, .int (nI k)), (0, .ref o)] 4 (nI (j + 1)) dX6_kind_94 rfl (iinc1 j) (by decide) rfl ?_
            refine j_goto 97 cx 28 dX6_kind_97 (by decide) ?_
            refine j_lv [0, 1, 2, 5, 6] rfl ?_
            have h9 := ih28 (j + 1) zl1 (by omega)
            rw [show bstK (sN S) k (j + 1) = (bstK (sN S) k j) from bst_skipM (m := 400) (by omega) (by omega) (kindT_le _ _) zc2 zc3] at h9
            exact h9
          · skip
            refine j_iconst 63 cx 1 dX6_kind_63 (by decide) ?_
            refine j_goto 64 cx 68 dX6_kind_64 (by decide) ?_
            refine j_istore 68 cx [(6, .int 1), (5, .int (tM 400 (till (gDone k) 400 (up2 (sN S) 2 k (nI j))))), (4, .int (nI j)), (3, .int (nI (bstK (sN S) k j).1)), (2, .int ((bstK (sN S) k j).2)), (1, .int (nI k)), (0, .ref o)] dX6_kind_68 (by decide) rfl ?_
            refine j_iload 70 cx 0 dX6_kind_70 rfl ?_
            refine j_if_eq_F 72 cx 80 dX6_kind_72 (by decide) (by decide) ?_
            refine j_iload 75 cx 2 dX6_kind_75 rfl ?_
            refine j_goto 77 cx 81 dX6_kind_77 (by decide) ?_
            refine j_istore_n 81 cx [(2, .int (nI j)), (6, .int 1), (5, .int (tM 400 (till (gDone k) 400 (up2 (sN S) 2 k (nI j))))), (4, .int (nI j)), (3, .int (nI (bstK (sN S) k j).1)), (1, .int (nI k)), (0, .ref o)] dX6_kind_81 (by decide) rfl ?_
            refine j_iload 82 cx 1 dX6_kind_82 rfl ?_
            refine j_if_eq_F 84 cx 92 dX6_kind_84 (by decide) (by decide) ?_
            refine j_iload 87 cx 2 dX6_kind_87 rfl ?_
            refine j_goto 89 cx 93 dX6_kind_89 (by decide) ?_
            refine j_istore_n 93 cx [(3, .int (tM 400 (till (gDone k) 400 (up2 (sN S) 2 k (nI j))))), (2, .int (nI j)), (6, .int 1), (5, .int (tM 400 (till (gDone k) 400 (up2 (sN S) 2 k (nI j))))), (4, .int (nI j)), (1, .int (nI k)), (0, .ref o)] dX6_kind_93 (by decide) rfl ?_
            refine j_iinc 94 cx [(4, .int (nI (j + 1))), (3, .int (tM 400 (till (gDone k) 400 (up2 (sN S) 2 k (nI j))))), (2, .int (nI j)), (6, .int 1), (5, .int (tM 400 (till (gDone k) 400 (up2 (sN S) 2 k (nI j))))), (1, .int (nI k)), (0, .ref o)] 4 (nI (j + 1)) dX6_kind_94 rfl (iinc1 j) (by decide) rfl ?_
            refine j_goto 97 cx 28 dX6_kind_97 (by decide) ?_
            refine j_lv [0, 1, 2, 5, 6] rfl ?_
            have h9 := ih28 (j + 1) zl1 (by omega)
            rw [show bstK (sN S) k (j + 1) = (kindT (sN S) k j, nI j) from bst_takeM (m := 400) (by omega) (by omega) (kindT_le _ _) rfl zc2 zc3] at h9
            rw [show tM 400 (till (gDone k) 400 (up2 (sN S) 2 k (nI j))) = nI (kindT (sN S) k j) from tM_ok zc2]
            exact h9
    refine j_lv [0, 1, 2, 4, 3] rfl ?_
    exact L28 6 0 la (by omega)
  · skip
    refine j_aload_n 8 cx 0 dX6_kind_8 rfl ?_
    refine j_ldc 9 cx (v := -1000000001) (List.mem_of_getElem? (i := 1) rfl) dX6_kind_9 ?_
    refine j_callV_i 11 cx 1 [0, 2] [.int (fcode 0)] (fun _ => wMO o am (sP S) la (nI (sL S)) tk be an va bd ++ ([((am 0), .inl (gI G, 51, .inl (mm (sN S))))] ++ ([((am 3), .inl (gI G, 7, .inl (upd (sF S) 0 ((sF S) 0 + 1))))] ++ [((am 2), .inl (gI G, 51, .inl (mm ω)))]))) (c_X6_finds (kl K) G o am (sP S) la (nI (sL S)) tk be an va bd (sF S) 0 (by decide)) gX6_kind_X6_finds rfl rfl rfl ⟨rfl, by decide, by decide, rfl⟩ ⟨Nat.le_of_ble_eq_true rfl, Nat.le_of_ble_eq_true rfl⟩ ⟨Nat.zero_le _, Nat.zero_le _⟩ rfl (by decide) (ci := 5) 0 rfl rfl rfl rfl rfl (Nat.le_of_ble_eq_true rfl) dX6_kind_11 (fun _ => rfl) (fun zu6 zk6 => ?_)
    refine j_top (fcode 0) rfl ?_
    have ze : (sp_kind p S) = bad S 0 := by unfold sp_kind; simp [isP_eq hI, bI_t, bI_f, zc1]
    exact fin (la, ω) _ _ _ _ dX6_kind_14 rfl (by rw [ze] <;> rfl) (by rw [ze] <;> rfl) trivial
set_option maxRecDepth 100000 in
set_option maxHeartbeats 4000000 in
theorem c_X6_holiday (l : Launch) (G : pG) (o : Nat) (am : Nat → Nat) (S : St) (la tk be an va : Int32) (bd : Bool) (ω : Nu) (hI : Inv (sN S)) (hD : dyN (sN S) ≤ 9999)  : KI l G yX6_holiday wsX6_holiday ({ frames := 8, cells := 0, slots := 0, locals := 178 } : Room) [.ref o] (wMO o am (sP S) la (nI (sL S)) tk be an va bd ++ ([((am 0), .inl (gI G, 51, .inl (mm (sN S))))] ++ ([((am 3), .inl (gI G, 7, .inl (sF S)))] ++ [((am 2), .inl (gI G, 51, .inl (mm ω)))]))) (S := (Int32 × Nu)) (fun _ => True) (fun u => (sp_holiday S).1) (fun u => wMO o am (sP S) (u.1) (nI (sL S)) tk be an va bd ++ ([((am 0), .inl (gI G, 51, .inl (mm (sN (sp_holiday S).2))))] ++ ([((am 3), .inl (gI G, 7, .inl (sF (sp_holiday S).2)))] ++ [((am 2), .inl (gI G, 51, .inl (mm u.2)))]))) := by
  refine ki_of [(0, .ref o)] (own := RX6) (cc := cX6_holiday) (nL := 7) (by decide +kernel) rfl rfl (Nat.le_of_ble_eq_true rfl) rfl (fun _ => rfl) (fun K cx fin => ?_)
  refine j_aload_n 0 cx 0 dX6_holiday_0 rfl ?_
  refine j_callV_v 1 cx 0 [0, 1, 3] [] (fun _ => wMO o am (sP S) la (nI (sL S)) tk be an va bd ++ ([((am 0), .inl (gI G, 51, .inl (mm (sN S))))] ++ ([((am 3), .inl (gI G, 7, .inl (sF S)))] ++ [((am 2), .inl (gI G, 51, .inl (mm (sN S))))]))) (c_X6_thinks (kl K) G o am (sP S) la (nI (sL S)) tk be an va bd (sN S) ω) gX6_holiday_X6_thinks rfl rfl rfl ⟨rfl, by decide, by decide, rfl⟩ ⟨Nat.le_of_ble_eq_true rfl, Nat.le_of_ble_eq_true rfl⟩ ⟨Nat.zero_le _, Nat.zero_le _⟩ rfl (by decide) (ci := 5) 0 rfl rfl rfl rfl rfl (Nat.le_of_ble_eq_true rfl) dX6_holiday_1 (fun _ => rfl) (fun zu1 zk1 => ?_)
  refine j_aload_n 4 cx 0 dX6_holiday_4 rfl ?_
  refine j_callV_i 5 cx 0 [0, 1, 3] [] (fun zl1 => wMO o am (sP S) zl1 (nI (sL S)) tk be an va bd ++ ([((am 0), .inl (gI G, 51, .inl (mm (sN S))))] ++ ([((am 3), .inl (gI G, 7, .inl (sF S)))] ++ [((am 2), .inl (gI G, 51, .inl (mm (sN S))))]))) (c_X6_allIn (kl K) G o am (sP S) la (nI (sL S)) tk be an va bd (sN S) (sN S) hI (by have := hD; omega)) gX6_holiday_X6_allIn rfl rfl rfl ⟨rfl, by decide, by decide, rfl⟩ ⟨Nat.le_of_ble_eq_true rfl, Nat.le_of_ble_eq_true rfl⟩ ⟨Nat.zero_le _, Nat.zero_le _⟩ rfl (by decide) (ci := 5) 0 rfl rfl rfl rfl rfl (Nat.le_of_ble_eq_true rfl) dX6_holiday_5 (fun _ => rfl) (fun zl1 zk2 => ?_)
  refine j_top (tM 400 (till gAll 400 (sN S))) rfl ?_
  refine j_istore_n 8 cx [(1, .int (tM 400 (till gAll 400 (sN S)))), (0, .ref o)] dX6_holiday_8 (by decide) rfl ?_
  refine j_iload_n 9 cx 0 dX6_holiday_9 rfl ?_
  refine j_if_ge 10 cx 19 dX6_holiday_10 (by decide) (fun zc1 => ?_) (fun zc1 => ?_)
  · skip
    refine j_iload_n 19 cx 0 dX6_holiday_19 rfl ?_
    refine j_istore_n 20 cx [(2, .int (tM 400 (till gAll 400 (sN S)))), (1, .int (tM 400 (till gAll 400 (sN S)))), (0, .ref o)] dX6_holiday_20 (by decide) rfl ?_
    refine j_iconst 21 cx (-1) dX6_holiday_21 (by decide) ?_
    refine j_istore_n 22 cx [(3, .int ((-1))), (2, .int (tM 400 (till gAll 400 (sN S)))), (1, .int (tM 400 (till gAll 400 (sN S)))), (0, .ref o)] dX6_holiday_22 (by decide) rfl ?_
    refine j_iconst 23 cx 0 dX6_holiday_23 (by decide) ?_
    refine j_istore 24 cx [(4, .int 0), (3, .int ((-1))), (2, .int (tM 400 (till gAll 400 (sN S)))), (1, .int (tM 400 (till gAll 400 (sN S)))), (0, .ref o)] dX6_holiday_24 (by decide) rfl ?_
    have L26 : ∀ d : Nat, ∀ (j : Nat) (zl : Int32), (j + d = 7) → JJ G K 0 0 (wMO o am (sP S) zl (nI (sL S)) tk be an va bd ++ ([((am 0), .inl (gI G, 51, .inl (mm (sN S))))] ++ ([((am 3), .inl (gI G, 7, .inl (sF S)))] ++ [((am 2), .inl (gI G, 51, .inl (mm (sN S))))]))) [(4, .int (nI j)), (3, .int ((bstH (sN S) j).2)), (2, .int (nI (bstH (sN S) j).1)), (0, .ref o)] 26 [] := by
      intro d
      induction d with
      | zero =>
        intro j zl hj
        refine j_iload 26 cx 0 dX6_holiday_26 rfl ?_
        refine j_bipush 28 cx 7 dX6_holiday_28 (by decide) ?_
        refine j_icmp_ge_T 30 cx 109 dX6_holiday_30 (by decide) (nI_le (a := 7) (by omega) (by omega)) ?_
        refine j_aload_n 109 cx 3 dX6_holiday_109 rfl ?_
        refine j_iload_n 110 cx 1 dX6_holiday_110 rfl ?_
        refine j_callV_i 111 cx 1 [0, 2] [.int ((bstH (sN S) j).2)] (fun _ => wMO o am (sP S) zl (nI (sL S)) tk be an va bd ++ ([((am 0), .inl (gI G, 51, .inl (mm (sN S))))] ++ ([((am 3), .inl (gI G, 7, .inl (oF ((bstH (sN S) j).2) (sF S))))] ++ [((am 2), .inl (gI G, 51, .inl (mm (sN S))))]))) (c_X6_orNone (kl K) G o am (sP S) zl (nI (sL S)) tk be an va bd (sF S) ((bstH (sN S) j).2)) gX6_holiday_X6_orNone rfl rfl rfl ⟨rfl, by decide, by decide, rfl⟩ ⟨Nat.le_of_ble_eq_true rfl, Nat.le_of_ble_eq_true rfl⟩ ⟨Nat.zero_le _, Nat.zero_le _⟩ rfl (by decide) (ci := 5) 0 rfl rfl rfl rfl rfl (Nat.le_of_ble_eq_true rfl) dX6_holiday_111 (fun _ => rfl) (fun zu3 zk3 => ?_)
        refine j_top (oN ((bstH (sN S) j).2)) rfl ?_
        have ze : (sp_holiday S) = (oN ((bstH (sN S) j).2), stF S (oF ((bstH (sN S) j).2) (sF S))) := by unfold sp_holiday; rw [show 7 = j from by omega]; exact orB_eq _ _
        exact fin (zl, (sN S)) _ _ _ _ dX6_holiday_114 rfl (by rw [ze] <;> rfl) (by rw [ze] <;> rfl) trivial
      | succ d ih26 =>
        intro j zl hj
        refine j_iload 26 cx 0 dX6_holiday_26 rfl ?_
        refine j_bipush 28 cx 7 dX6_holiday_28 (by decide) ?_
        refine j_icmp_ge_F 30 cx 109 dX6_holiday_30 (by decide) (nI_ge (b := 7) (by omega) (by omega)) ?_
        refine j_aload_n 33 cx 3 dX6_holiday_33 rfl ?_
        refine j_get 34 cx 0 0 (T := TX6) (v := .ref ((am 0))) (fun _ h => List.mem_cons_of_mem _ (List.mem_append_right _ (h))) (List.mem_of_getElem? (i := 1) rfl) (ci := 5) rfl (by decide) rfl rfl rfl dX6_holiday_34 ?_
        refine j_iconst 37 cx 4 dX6_holiday_37 (by decide) ?_
        refine j_iload 38 cx 0 dX6_holiday_38 rfl ?_
        refine j_iadd 40 cx dX6_holiday_40 ?_
        refine j_top (nI (4 + j)) (nI_add 4 j) ?_
        refine j_iald 41 cx 1 (4 + j) rfl rfl (by omega) (by decide) dX6_holiday_41 ?_
        refine j_top ((sN S) 1 j) (mm_fr _ (by omega)) ?_
        refine j_if_ne 42 cx 103 dX6_holiday_42 (by decide) (fun zc2 => ?_) (fun zc2 => ?_)
        · skip
          refine j_iinc 103 cx [(4, .int (nI (j + 1))), (3, .int ((bstH (sN S) j).2)), (2, .int (nI (bstH (sN S) j).1)), (0, .ref o)] 0 (nI (j + 1)) dX6_holiday_103 rfl (iinc1 j) (by decide) rfl ?_
          refine j_goto 106 cx 26 dX6_holiday_106 (by decide) ?_
          have h9 := ih26 (j + 1) zl (by omega)
          rw [show bstH (sN S) (j + 1) = (bstH (sN S) j) from bst_no (decide_eq_false zc2)] at h9
          exact h9
        · skip
          refine j_aload_n 45 cx 3 dX6_holiday_45 rfl ?_
          refine j_get 46 cx 0 0 (T := TX6) (v := .ref ((am 0))) (fun _ h => List.mem_cons_of_mem _ (List.mem_append_right _ (h))) (List.mem_of_getElem? (i := 1) rfl) (ci := 5) rfl (by decide) rfl rfl rfl dX6_holiday_46 ?_
          refine j_iconst 49 cx 4 dX6_holiday_49 (by decide) ?_
          refine j_iload 50 cx 0 dX6_holiday_50 rfl ?_
          refine j_iadd 52 cx dX6_holiday_52 ?_
          refine j_top (nI (4 + j)) (nI_add 4 j) ?_
          refine j_iconst 53 cx 1 dX6_holiday_53 (by decide) ?_
          refine j_iast 54 cx 1 (4 + j) (wMO o am (sP S) zl (nI (sL S)) tk be an va bd ++ ([((am 0), .inl (gI G, 51, .inl (upd (mm (sN S)) (4 + j) 1)))] ++ ([((am 3), .inl (gI G, 7, .inl (sF S)))] ++ [((am 2), .inl (gI G, 51, .inl (mm (sN S))))]))) rfl rfl (by omega) (by decide) rfl dX6_holiday_54 ?_
          refine j_ws (wMO o am (sP S) zl (nI (sL S)) tk be an va bd ++ ([((am 0), .inl (gI G, 51, .inl (mm (up2 (sN S) 1 j 1))))] ++ ([((am 3), .inl (gI G, 7, .inl (sF S)))] ++ [((am 2), .inl (gI G, 51, .inl (mm (sN S))))]))) (congrArg (fun zf : Nat → Int32 => wMO o am (sP S) zl (nI (sL S)) tk be an va bd ++ ([((am 0), .inl (gI G, 51, .inl zf))] ++ ([((am 3), .inl (gI G, 7, .inl (sF S)))] ++ [((am 2), .inl (gI G, 51, .inl (mm (sN S))))]))) (mm_ufr _ _ (by omega))) ?_
          refine j_aload_n 55 cx 3 dX6_holiday_55 rfl ?_
          refine j_callV_i 56 cx 0 [0, 1, 3] [] (fun zl2 => wMO o am (sP S) zl2 (nI (sL S)) tk be an va bd ++ ([((am 0), .inl (gI G, 51, .inl (mm (sN S))))] ++ ([((am 3), .inl (gI G, 7, .inl (sF S)))] ++ [((am 2), .inl (gI G, 51, .inl (mm (sN S))))]))) (c_X6_allIn (kl K) G o am (sP S) zl (nI (sL S)) tk be an va bd (up2 (sN S) 1 j 1) (sN S) (inv_upx hI 1 j 1 (by omega)) (by have h9 : dyN (up2 (sN S) 1 j 1) ≤ 9999 := hD; omega)) gX6_holiday_X6_allIn rfl rfl rfl ⟨rfl, by decide, by decide, rfl⟩ ⟨Nat.le_of_ble_eq_true rfl, Nat.le_of_ble_eq_true rfl⟩ ⟨Nat.zero_le _, Nat.zero_le _⟩ rfl (by decide) (ci := 5) 0 rfl rfl rfl rfl rfl (Nat.le_of_ble_eq_true rfl) dX6_holiday_56 (fun _ => rfl) (fun zl2 zk4 => ?_)
          refine j_top (tM 400 (till gAll 400 (up2 (sN S) 1 j 1))) rfl ?_
          refine j_istore 59 cx [(5, .int (tM 400 (till gAll 400 (up2 (sN S) 1 j 1)))), (4, .int (nI j)), (3, .int ((bstH (sN S) j).2)), (2, .int (nI (bstH (sN S) j).1)), (0, .ref o)] dX6_holiday_59 (by decide) rfl ?_
          refine j_iload 61 cx 0 dX6_holiday_61 rfl ?_
          refine j_if_lt 63 cx 76 dX6_holiday_63 (by decide) (fun zc3 => ?_) (fun zc3 => ?_)
          · skip
            refine j_iconst 76 cx 0 dX6_holiday_76 (by decide) ?_
            refine j_istore 77 cx [(6, .int 0), (5, .int (tM 400 (till gAll 400 (up2 (sN S) 1 j 1)))), (4, .int (nI j)), (3, .int ((bstH (sN S) j).2)), (2, .int (nI (bstH (sN S) j).1)), (0, .ref o)] dX6_holiday_77 (by decide) rfl ?_
            refine j_iload 79 cx 0 dX6_holiday_79 rfl ?_
            refine j_if_eq_T 81 cx 89 dX6_holiday_81 (by decide) (by decide) ?_
            refine j_iload_n 89 cx 3 dX6_holiday_89 rfl ?_
            refine j_istore_n 90 cx [(3, .int ((bstH (sN S) j).2)), (6, .int 0), (5, .int (tM 400 (till gAll 400 (up2 (sN S) 1 j 1)))), (4, .int (nI j)), (2, .int (nI (bstH (sN S) j).1)), (0, .ref o)] dX6_holiday_90 (by decide) rfl ?_
            refine j_iload 91 cx 1 dX6_holiday_91 rfl ?_
            refine j_if_eq_T 93 cx 101 dX6_holiday_93 (by decide) (by decide) ?_
            refine j_iload_n 101 cx 4 dX6_holiday_101 rfl ?_
            refine j_istore_n 102 cx [(2, .int (nI (bstH (sN S) j).1)), (3, .int ((bstH (sN S) j).2)), (6, .int 0), (5, .int (tM 400 (till gAll 400 (up2 (sN S) 1 j 1)))), (4, .int (nI j)), (0, .ref o)] dX6_holiday_102 (by decide) rfl ?_
            refine j_iinc 103 cx [(4, .int (nI (j + 1))), (2, .int (nI (bstH (sN S) j).1)), (3, .int ((bstH (sN S) j).2)), (6, .int 0), (5, .int (tM 400 (till gAll 400 (up2 (sN S) 1 j 1)))), (0, .ref o)] 4 (nI (j + 1)) dX6_holiday_103 rfl (iinc1 j) (by decide) rfl ?_
            refine j_goto 106 cx 26 dX6_holiday_106 (by decide) ?_
            refine j_lv [0, 2, 1, 5] rfl ?_
            have h9 := ih26 (j + 1) zl2 (by omega)
            rw [show bstH (sN S) (j + 1) = (bstH (sN S) j) from bst_skipN (m := 400) (by omega) (till_le _ _ _) (holT_le _) zc3] at h9
            exact h9
          · skip
            refine j_iload 66 cx 0 dX6_holiday_66 rfl ?_
            refine j_iload_n 68 cx 3 dX6_holiday_68 rfl ?_
            refine j_icmp_ge 69 cx 76 dX6_holiday_69 (by decide) (fun zc4 => ?_) (fun zc4 => ?_)
            · skip
              refine j_iconst 76 cx 0 dX6_holiday_76 (by decide) ?_
              refine j_istore 77 cx [(6, .int 0), (5, .int (tM 400 (till gAll 400 (up2 (sN S) 1 j 1)))), (4, .int (nI j)), (3, .int ((bstH (sN S) j).2)), (2, .int (nI (bstH (sN S) j).1)), (0, .ref o)] dX6_holiday_77 (by decide) rfl ?_
              refine j_iload 79 cx 0 dX6_holiday_79 rfl ?_
              refine j_if_eq_T 81 cx 89 dX6_holiday_81 (by decide) (by decide) ?_
              refine j_iload_n 89 cx 3 dX6_holiday_89 rfl ?_
              refine j_istore_n 90 cx [(3, .int ((bstH (sN S) j).2)), (6, .int 0), (5, .int (tM 400 (till gAll 400 (up2 (sN S) 1 j 1)))), (4, .int (nI j)), (2, .int (nI (bstH (sN S) j).1)), (0, .ref o)] dX6_holiday_90 (by decide) rfl ?_
              refine j_iload 91 cx 1 dX6_holiday_91 rfl ?_
              refine j_if_eq_T 93 cx 101 dX6_holiday_93 (by decide) (by decide) ?_
              refine j_iload_n 101 cx 4 dX6_holiday_101 rfl ?_
              refine j_istore_n 102 cx [(2, .int (nI (bstH (sN S) j).1)), (3, .int ((bstH (sN S) j).2)), (6, .int 0), (5, .int (tM 400 (till gAll 400 (up2 (sN S) 1 j 1)))), (4, .int (nI j)), (0, .ref o)] dX6_holiday_102 (by decide) rfl ?_
              refine j_iinc 103 cx [(4, .int (nI (j + 1))), (2, .int (nI (bstH (sN S) j).1)), (3, .int ((bstH (sN S) j).2)), (6, .int 0), (5, .int (tM 400 (till gAll 400 (up2 (sN S) 1 j 1)))), (0, .ref o)] 4 (nI (j + 1)) dX6_holiday_103 rfl (iinc1 j) (by decide) rfl ?_
              refine j_goto 106 cx 26 dX6_holiday_106 (by decide) ?_
              refine j_lv [0, 2, 1, 5] rfl ?_
              have h9 := ih26 (j + 1) zl2 (by omega)
              rw [show bstH (sN S) (j + 1) = (bstH (sN S) j) from bst_skipM (m := 400) (by omega) (till_le _ _ _) (holT_le _) zc3 zc4] at h9
              exact h9
            · skip
              refine j_iconst 72 cx 1 dX6_holiday_72 (by decide) ?_
              refine j_goto 73 cx 77 dX6_holiday_73 (by decide) ?_
              refine j_istore 77 cx [(6, .int 1), (5, .int (tM 400 (till gAll 400 (up2 (sN S) 1 j 1)))), (4, .int (nI j)), (3, .int ((bstH (sN S) j).2)), (2, .int (nI (bstH (sN S) j).1)), (0, .ref o)] dX6_holiday_77 (by decide) rfl ?_
              refine j_iload 79 cx 0 dX6_holiday_79 rfl ?_
              refine j_if_eq_F 81 cx 89 dX6_holiday_81 (by decide) (by decide) ?_
              refine j_iload 84 cx 2 dX6_holiday_84 rfl ?_
              refine j_goto 86 cx 90 dX6_holiday_86 (by decide) ?_
              refine j_istore_n 90 cx [(3, .int (nI j)), (6, .int 1), (5, .int (tM 400 (till gAll 400 (up2 (sN S) 1 j 1)))), (4, .int (nI j)), (2, .int (nI (bstH (sN S) j).1)), (0, .ref o)] dX6_holiday_90 (by decide) rfl ?_
              refine j_iload 91 cx 1 dX6_holiday_91 rfl ?_
              refine j_if_eq_F 93 cx 101 dX6_holiday_93 (by decide) (by decide) ?_
              refine j_iload 96 cx 2 dX6_holiday_96 rfl ?_
              refine j_goto 98 cx 102 dX6_holiday_98 (by decide) ?_
              refine j_istore_n 102 cx [(2, .int (tM 400 (till gAll 400 (up2 (sN S) 1 j 1)))), (3, .int (nI j)), (6, .int 1), (5, .int (tM 400 (till gAll 400 (up2 (sN S) 1 j 1)))), (4, .int (nI j)), (0, .ref o)] dX6_holiday_102 (by decide) rfl ?_
              refine j_iinc 103 cx [(4, .int (nI (j + 1))), (2, .int (tM 400 (till gAll 400 (up2 (sN S) 1 j 1)))), (3, .int (nI j)), (6, .int 1), (5, .int (tM 400 (till gAll 400 (up2 (sN S) 1 j 1)))), (0, .ref o)] 4 (nI (j + 1)) dX6_holiday_103 rfl (iinc1 j) (by decide) rfl ?_
              refine j_goto 106 cx 26 dX6_holiday_106 (by decide) ?_
              refine j_lv [0, 2, 1, 5] rfl ?_
              have h9 := ih26 (j + 1) zl2 (by omega)
              rw [show bstH (sN S) (j + 1) = (holT (sN S) j, nI j) from bst_takeM (m := 400) (by omega) (till_le _ _ _) (holT_le _) (decide_eq_true zc2) zc3 zc4] at h9
              rw [show tM 400 (till gAll 400 (up2 (sN S) 1 j 1)) = nI (holT (sN S) j) from tM_ok zc3]
              exact h9
    refine j_lv [0, 1, 2, 4] rfl ?_
    rw [show tM 400 (till gAll 400 (sN S)) = nI (till gAll 400 (sN S)) from tM_ok (Int32.not_lt.mpr zc1)]
    exact L26 7 0 zl1 (by omega)
  · skip
    refine j_sipush 13 cx 401 dX6_holiday_13 (by decide) ?_
    refine j_goto 16 cx 20 dX6_holiday_16 (by decide) ?_
    refine j_istore_n 20 cx [(2, .int 401), (1, .int (tM 400 (till gAll 400 (sN S)))), (0, .ref o)] dX6_holiday_20 (by decide) rfl ?_
    refine j_iconst 21 cx (-1) dX6_holiday_21 (by decide) ?_
    refine j_istore_n 22 cx [(3, .int ((-1))), (2, .int 401), (1, .int (tM 400 (till gAll 400 (sN S)))), (0, .ref o)] dX6_holiday_22 (by decide) rfl ?_
    refine j_iconst 23 cx 0 dX6_holiday_23 (by decide) ?_
    refine j_istore 24 cx [(4, .int 0), (3, .int ((-1))), (2, .int 401), (1, .int (tM 400 (till gAll 400 (sN S)))), (0, .ref o)] dX6_holiday_24 (by decide) rfl ?_
    have L26 : ∀ d : Nat, ∀ (j : Nat) (zl : Int32), (j + d = 7) → JJ G K 0 0 (wMO o am (sP S) zl (nI (sL S)) tk be an va bd ++ ([((am 0), .inl (gI G, 51, .inl (mm (sN S))))] ++ ([((am 3), .inl (gI G, 7, .inl (sF S)))] ++ [((am 2), .inl (gI G, 51, .inl (mm (sN S))))]))) [(4, .int (nI j)), (3, .int ((bstH (sN S) j).2)), (2, .int (nI (bstH (sN S) j).1)), (0, .ref o)] 26 [] := by
      intro d
      induction d with
      | zero =>
        intro j zl hj
        refine j_iload 26 cx 0 dX6_holiday_26 rfl ?_
        refine j_bipush 28 cx 7 dX6_holiday_28 (by decide) ?_
        refine j_icmp_ge_T 30 cx 109 dX6_holiday_30 (by decide) (nI_le (a := 7) (by omega) (by omega)) ?_
        refine j_aload_n 109 cx 3 dX6_holiday_109 rfl ?_
        refine j_iload_n 110 cx 1 dX6_holiday_110 rfl ?_
        refine j_callV_i 111 cx 1 [0, 2] [.int ((bstH (sN S) j).2)] (fun _ => wMO o am (sP S) zl (nI (sL S)) tk be an va bd ++ ([((am 0), .inl (gI G, 51, .inl (mm (sN S))))] ++ ([((am 3), .inl (gI G, 7, .inl (oF ((bstH (sN S) j).2) (sF S))))] ++ [((am 2), .inl (gI G, 51, .inl (mm (sN S))))]))) (c_X6_orNone (kl K) G o am (sP S) zl (nI (sL S)) tk be an va bd (sF S) ((bstH (sN S) j).2)) gX6_holiday_X6_orNone rfl rfl rfl ⟨rfl, by decide, by decide, rfl⟩ ⟨Nat.le_of_ble_eq_true rfl, Nat.le_of_ble_eq_true rfl⟩ ⟨Nat.zero_le _, Nat.zero_le _⟩ rfl (by decide) (ci := 5) 0 rfl rfl rfl rfl rfl (Nat.le_of_ble_eq_true rfl) dX6_holiday_111 (fun _ => rfl) (fun zu5 zk5 => ?_)
        refine j_top (oN ((bstH (sN S) j).2)) rfl ?_
        have ze : (sp_holiday S) = (oN ((bstH (sN S) j).2), stF S (oF ((bstH (sN S) j).2) (sF S))) := by unfold sp_holiday; rw [show 7 = j from by omega]; exact orB_eq _ _
        exact fin (zl, (sN S)) _ _ _ _ dX6_holiday_114 rfl (by rw [ze] <;> rfl) (by rw [ze] <;> rfl) trivial
      | succ d ih26 =>
        intro j zl hj
        refine j_iload 26 cx 0 dX6_holiday_26 rfl ?_
        refine j_bipush 28 cx 7 dX6_holiday_28 (by decide) ?_
        refine j_icmp_ge_F 30 cx 109 dX6_holiday_30 (by decide) (nI_ge (b := 7) (by omega) (by omega)) ?_
        refine j_aload_n 33 cx 3 dX6_holiday_33 rfl ?_
        refine j_get 34 cx 0 0 (T := TX6) (v := .ref ((am 0))) (fun _ h => List.mem_cons_of_mem _ (List.mem_append_right _ (h))) (List.mem_of_getElem? (i := 1) rfl) (ci := 5) rfl (by decide) rfl rfl rfl dX6_holiday_34 ?_
        refine j_iconst 37 cx 4 dX6_holiday_37 (by decide) ?_
        refine j_iload 38 cx 0 dX6_holiday_38 rfl ?_
        refine j_iadd 40 cx dX6_holiday_40 ?_
        refine j_top (nI (4 + j)) (nI_add 4 j) ?_
        refine j_iald 41 cx 1 (4 + j) rfl rfl (by omega) (by decide) dX6_holiday_41 ?_
        refine j_top ((sN S) 1 j) (mm_fr _ (by omega)) ?_
        refine j_if_ne 42 cx 103 dX6_holiday_42 (by decide) (fun zc5 => ?_) (fun zc5 => ?_)
        · skip
          refine j_iinc 103 cx [(4, .int (nI (j + 1))), (3, .int ((bstH (sN S) j).2)), (2, .int (nI (bstH (sN S) j).1)), (0, .ref o)] 0 (nI (j + 1)) dX6_holiday_103 rfl (iinc1 j) (by decide) rfl ?_
          refine j_goto 106 cx 26 dX6_holiday_106 (by decide) ?_
          have h9 := ih26 (j + 1) zl (by omega)
          rw [show bstH (sN S) (j + 1) = (bstH (sN S) j) from bst_no (decide_eq_false zc5)] at h9
          exact h9
        · skip
          refine j_aload_n 45 cx 3 dX6_holiday_45 rfl ?_
          refine j_get 46 cx 0 0 (T := TX6) (v := .ref ((am 0))) (fun _ h => List.mem_cons_of_mem _ (List.mem_append_right _ (h))) (List.mem_of_getElem? (i := 1) rfl) (ci := 5) rfl (by decide) rfl rfl rfl dX6_holiday_46 ?_
          refine j_iconst 49 cx 4 dX6_holiday_49 (by decide) ?_
          refine j_iload 50 cx 0 dX6_holiday_50 rfl ?_
          refine j_iadd 52 cx dX6_holiday_52 ?_
          refine j_top (nI (4 + j)) (nI_add 4 j) ?_
          refine j_iconst 53 cx 1 dX6_holiday_53 (by decide) ?_
          refine j_iast 54 cx 1 (4 + j) (wMO o am (sP S) zl (nI (sL S)) tk be an va bd ++ ([((am 0), .inl (gI G, 51, .inl (upd (mm (sN S)) (4 + j) 1)))] ++ ([((am 3), .inl (gI G, 7, .inl (sF S)))] ++ [((am 2), .inl (gI G, 51, .inl (mm (sN S))))]))) rfl rfl (by omega) (by decide) rfl dX6_holiday_54 ?_
          refine j_ws (wMO o am (sP S) zl (nI (sL S)) tk be an va bd ++ ([((am 0), .inl (gI G, 51, .inl (mm (up2 (sN S) 1 j 1))))] ++ ([((am 3), .inl (gI G, 7, .inl (sF S)))] ++ [((am 2), .inl (gI G, 51, .inl (mm (sN S))))]))) (congrArg (fun zf : Nat → Int32 => wMO o am (sP S) zl (nI (sL S)) tk be an va bd ++ ([((am 0), .inl (gI G, 51, .inl zf))] ++ ([((am 3), .inl (gI G, 7, .inl (sF S)))] ++ [((am 2), .inl (gI G, 51, .inl (mm (sN S))))]))) (mm_ufr _ _ (by omega))) ?_
          refine j_aload_n 55 cx 3 dX6_holiday_55 rfl ?_
          refine j_callV_i 56 cx 0 [0, 1, 3] [] (fun zl3 => wMO o am (sP S) zl3 (nI (sL S)) tk be an va bd ++ ([((am 0), .inl (gI G, 51, .inl (mm (sN S))))] ++ ([((am 3), .inl (gI G, 7, .inl (sF S)))] ++ [((am 2), .inl (gI G, 51, .inl (mm (sN S))))]))) (c_X6_allIn (kl K) G o am (sP S) zl (nI (sL S)) tk be an va bd (up2 (sN S) 1 j 1) (sN S) (inv_upx hI 1 j 1 (by omega)) (by have h9 : dyN (up2 (sN S) 1 j 1) ≤ 9999 := hD; omega)) gX6_holiday_X6_allIn rfl rfl rfl ⟨rfl, by decide, by decide, rfl⟩ ⟨Nat.le_of_ble_eq_true rfl, Nat.le_of_ble_eq_true rfl⟩ ⟨Nat.zero_le _, Nat.zero_le _⟩ rfl (by decide) (ci := 5) 0 rfl rfl rfl rfl rfl (Nat.le_of_ble_eq_true rfl) dX6_holiday_56 (fun _ => rfl) (fun zl3 zk6 => ?_)
          refine j_top (tM 400 (till gAll 400 (up2 (sN S) 1 j 1))) rfl ?_
          refine j_istore 59 cx [(5, .int (tM 400 (till gAll 400 (up2 (sN S) 1 j 1)))), (4, .int (nI j)), (3, .int ((bstH (sN S) j).2)), (2, .int (nI (bstH (sN S) j).1)), (0, .ref o)] dX6_holiday_59 (by decide) rfl ?_
          refine j_iload 61 cx 0 dX6_holiday_61 rfl ?_
          refine j_if_lt 63 cx 76 dX6_holiday_63 (by decide) (fun zc6 => ?_) (fun zc6 => ?_)
          · skip
            refine j_iconst 76 cx 0 dX6_holiday_76 (by decide) ?_
            refine j_istore 77 cx [(6, .int 0), (5, .int (tM 400 (till gAll 400 (up2 (sN S) 1 j 1)))), (4, .int (nI j)), (3, .int ((bstH (sN S) j).2)), (2, .int (nI (bstH (sN S) j).1)), (0, .ref o)] dX6_holiday_77 (by decide) rfl ?_
            refine j_iload 79 cx 0 dX6_holiday_79 rfl ?_
            refine j_if_eq_T 81 cx 89 dX6_holiday_81 (by decide) (by decide) ?_
            refine j_iload_n 89 cx 3 dX6_holiday_89 rfl ?_
            refine j_istore_n 90 cx [(3, .int ((bstH (sN S) j).2)), (6, .int 0), (5, .int (tM 400 (till gAll 400 (up2 (sN S) 1 j 1)))), (4, .int (nI j)), (2, .int (nI (bstH (sN S) j).1)), (0, .ref o)] dX6_holiday_90 (by decide) rfl ?_
            refine j_iload 91 cx 1 dX6_holiday_91 rfl ?_
            refine j_if_eq_T 93 cx 101 dX6_holiday_93 (by decide) (by decide) ?_
            refine j_iload_n 101 cx 4 dX6_holiday_101 rfl ?_
            refine j_istore_n 102 cx [(2, .int (nI (bstH (sN S) j).1)), (3, .int ((bstH (sN S) j).2)), (6, .int 0), (5, .int (tM 400 (till gAll 400 (up2 (sN S) 1 j 1)))), (4, .int (nI j)), (0, .ref o)] dX6_holiday_102 (by decide) rfl ?_
            refine j_iinc 103 cx [(4, .int (nI (j + 1))), (2, .int (nI (bstH (sN S) j).1)), (3, .int ((bstH (sN S) j).2)), (6, .int 0), (5, .int (tM 400 (till gAll 400 (up2 (sN S) 1 j 1)))), (0, .ref o)] 4 (nI (j + 1)) dX6_holiday_103 rfl (iinc1 j) (by decide) rfl ?_
            refine j_goto 106 cx 26 dX6_holiday_106 (by decide) ?_
            refine j_lv [0, 2, 1, 5] rfl ?_
            have h9 := ih26 (j + 1) zl3 (by omega)
            rw [show bstH (sN S) (j + 1) = (bstH (sN S) j) from bst_skipN (m := 400) (by omega) (till_le _ _ _) (holT_le _) zc6] at h9
            exact h9
          · skip
            refine j_iload 66 cx 0 dX6_holiday_66 rfl ?_
            refine j_iload_n 68 cx 3 dX6_holiday_68 rfl ?_
            refine j_icmp_ge 69 cx 76 dX6_holiday_69 (by decide) (fun zc7 => ?_) (fun zc7 => ?_)
            · skip
              refine j_iconst 76 cx 0 dX6_holiday_76 (by decide) ?_
              refine j_istore 77 cx [(6, .int 0), (5, .int (tM 400 (till gAll 400 (up2 (sN S) 1 j 1)))), (4, .int (nI j)), (3, .int ((bstH (sN S) j).2)), (2, .int (nI (bstH (sN S) j).1)), (0, .ref o)] dX6_holiday_77 (by decide) rfl ?_
              refine j_iload 79 cx 0 dX6_holiday_79 rfl ?_
              refine j_if_eq_T 81 cx 89 dX6_holiday_81 (by decide) (by decide) ?_
              refine j_iload_n 89 cx 3 dX6_holiday_89 rfl ?_
              refine j_istore_n 90 cx [(3, .int ((bstH (sN S) j).2)), (6, .int 0), (5, .int (tM 400 (till gAll 400 (up2 (sN S) 1 j 1)))), (4, .int (nI j)), (2, .int (nI (bstH (sN S) j).1)), (0, .ref o)] dX6_holiday_90 (by decide) rfl ?_
              refine j_iload 91 cx 1 dX6_holiday_91 rfl ?_
              refine j_if_eq_T 93 cx 101 dX6_holiday_93 (by decide) (by decide) ?_
              refine j_iload_n 101 cx 4 dX6_holiday_101 rfl ?_
              refine j_istore_n 102 cx [(2, .int (nI (bstH (sN S) j).1)), (3, .int ((bstH (sN S) j).2)), (6, .int 0), (5, .int (tM 400 (till gAll 400 (up2 (sN S) 1 j 1)))), (4, .int (nI j)), (0, .ref o)] dX6_holiday_102 (by decide) rfl ?_
              refine j_iinc 103 cx [(4, .int (nI (j + 1))), (2, .int (nI (bstH (sN S) j).1)), (3, .int ((bstH (sN S) j).2)), (6, .int 0), (5, .int (tM 400 (till gAll 400 (up2 (sN S) 1 j 1)))), (0, .ref o)] 4 (nI (j + 1)) dX6_holiday_103 rfl (iinc1 j) (by decide) rfl ?_
              refine j_goto 106 cx 26 dX6_holiday_106 (by decide) ?_
              refine j_lv [0, 2, 1, 5] rfl ?_
              have h9 := ih26 (j + 1) zl3 (by omega)
              rw [show bstH (sN S) (j + 1) = (bstH (sN S) j) from bst_skipM (m := 400) (by omega) (till_le _ _ _) (holT_le _) zc6 zc7] at h9
              exact h9
            · skip
              refine j_iconst 72 cx 1 dX6_holiday_72 (by decide) ?_
              refine j_goto 73 cx 77 dX6_holiday_73 (by decide) ?_
              refine j_istore 77 cx [(6, .int 1), (5, .int (tM 400 (till gAll 400 (up2 (sN S) 1 j 1)))), (4, .int (nI j)), (3, .int ((bstH (sN S) j).2)), (2, .int (nI (bstH (sN S) j).1)), (0, .ref o)] dX6_holiday_77 (by decide) rfl ?_
              refine j_iload 79 cx 0 dX6_holiday_79 rfl ?_
              refine j_if_eq_F 81 cx 89 dX6_holiday_81 (by decide) (by decide) ?_
              refine j_iload 84 cx 2 dX6_holiday_84 rfl ?_
              refine j_goto 86 cx 90 dX6_holiday_86 (by decide) ?_
              refine j_istore_n 90 cx [(3, .int (nI j)), (6, .int 1), (5, .int (tM 400 (till gAll 400 (up2 (sN S) 1 j 1)))), (4, .int (nI j)), (2, .int (nI (bstH (sN S) j).1)), (0, .ref o)] dX6_holiday_90 (by decide) rfl ?_
              refine j_iload 91 cx 1 dX6_holiday_91 rfl ?_
              refine j_if_eq_F 93 cx 101 dX6_holiday_93 (by decide) (by decide) ?_
              refine j_iload 96 cx 2 dX6_holiday_96 rfl ?_
              refine j_goto 98 cx 102 dX6_holiday_98 (by decide) ?_
              refine j_istore_n 102 cx [(2, .int (tM 400 (till gAll 400 (up2 (sN S) 1 j 1)))), (3, .int (nI j)), (6, .int 1), (5, .int (tM 400 (till gAll 400 (up2 (sN S) 1 j 1)))), (4, .int (nI j)), (0, .ref o)] dX6_holiday_102 (by decide) rfl ?_
              refine j_iinc 103 cx [(4, .int (nI (j + 1))), (2, .int (tM 400 (till gAll 400 (up2 (sN S) 1 j 1)))), (3, .int (nI j)), (6, .int 1), (5, .int (tM 400 (till gAll 400 (up2 (sN S) 1 j 1)))), (0, .ref o)] 4 (nI (j + 1)) dX6_holiday_103 rfl (iinc1 j) (by decide) rfl ?_
              refine j_goto 106 cx 26 dX6_holiday_106 (by decide) ?_
              refine j_lv [0, 2, 1, 5] rfl ?_
              have h9 := ih26 (j + 1) zl3 (by omega)
              rw [show bstH (sN S) (j + 1) = (holT (sN S) j, nI j) from bst_takeM (m := 400) (by omega) (till_le _ _ _) (holT_le _) (decide_eq_true zc5) zc6 zc7] at h9
              rw [show tM 400 (till gAll 400 (up2 (sN S) 1 j 1)) = nI (holT (sN S) j) from tM_ok zc6]
              exact h9
    refine j_lv [0, 1, 2, 4] rfl ?_
    rw [show (401 : Int32) = nI (till gAll 400 (sN S)) from tM_401 (till_le _ _ _) (Int32.not_le.mp zc1)]
    exact L26 7 0 zl1 (by omega)
set_option maxRecDepth 100000 in
set_option maxHeartbeats 4000000 in
theorem c_X6_last (l : Launch) (G : pG) (o : Nat) (am : Nat → Nat) (S : St) (la tk be an va : Int32) (bd : Bool) (ω : Nu) (hI : Inv (sN S)) (hD : dyN (sN S) ≤ 9999)  : KI l G yX6_last wsX6_last ({ frames := 8, cells := 0, slots := 0, locals := 180 } : Room) [.ref o] (wMO o am (sP S) la (nI (sL S)) tk be an va bd ++ ([((am 0), .inl (gI G, 51, .inl (mm (sN S))))] ++ ([((am 3), .inl (gI G, 7, .inl (sF S)))] ++ [((am 2), .inl (gI G, 51, .inl (mm ω)))]))) (S := (Int32 × Nu)) (fun _ => True) (fun u => (sp_last S).1) (fun u => wMO o am (sP S) (u.1) (nI (sL S)) tk be an va bd ++ ([((am 0), .inl (gI G, 51, .inl (mm (sN (sp_last S).2))))] ++ ([((am 3), .inl (gI G, 7, .inl (sF (sp_last S).2)))] ++ [((am 2), .inl (gI G, 51, .inl (mm u.2)))]))) := by
  refine ki_of [(0, .ref o)] (own := RX6) (cc := cX6_last) (nL := 5) (by decide +kernel) rfl rfl (Nat.le_of_ble_eq_true rfl) rfl (fun _ => rfl) (fun K cx fin => ?_)
  refine j_aload_n 0 cx 0 dX6_last_0 rfl ?_
  refine j_callV_v 1 cx 0 [0, 1, 3] [] (fun _ => wMO o am (sP S) la (nI (sL S)) tk be an va bd ++ ([((am 0), .inl (gI G, 51, .inl (mm (sN S))))] ++ ([((am 3), .inl (gI G, 7, .inl (sF S)))] ++ [((am 2), .inl (gI G, 51, .inl (mm (sN S))))]))) (c_X6_thinks (kl K) G o am (sP S) la (nI (sL S)) tk be an va bd (sN S) ω) gX6_last_X6_thinks rfl rfl rfl ⟨rfl, by decide, by decide, rfl⟩ ⟨Nat.le_of_ble_eq_true rfl, Nat.le_of_ble_eq_true rfl⟩ ⟨Nat.zero_le _, Nat.zero_le _⟩ rfl (by decide) (ci := 5) 0 rfl rfl rfl rfl rfl (Nat.le_of_ble_eq_true rfl) dX6_last_1 (fun _ => rfl) (fun zu1 zk1 => ?_)
  refine j_iconst 4 cx (-1) dX6_last_4 (by decide) ?_
  refine j_istore_n 5 cx [(1, .int ((-1))), (0, .ref o)] dX6_last_5 (by decide) rfl ?_
  refine j_iconst 6 cx (-1) dX6_last_6 (by decide) ?_
  refine j_istore_n 7 cx [(2, .int ((-1))), (1, .int ((-1))), (0, .ref o)] dX6_last_7 (by decide) rfl ?_
  refine j_iconst 8 cx 0 dX6_last_8 (by decide) ?_
  refine j_istore_n 9 cx [(3, .int 0), (2, .int ((-1))), (1, .int ((-1))), (0, .ref o)] dX6_last_9 (by decide) rfl ?_
  have L10 : ∀ d : Nat, ∀ (j : Nat) (zl : Int32), (j + d = szN (sN S)) → JJ G K 0 0 (wMO o am (sP S) zl (nI (sL S)) tk be an va bd ++ ([((am 0), .inl (gI G, 51, .inl (mm (sN S))))] ++ ([((am 3), .inl (gI G, 7, .inl (sF S)))] ++ [((am 2), .inl (gI G, 51, .inl (mm (sN S))))]))) [(3, .int (nI j)), (2, .int (lM (bgt (lastT (sN S)) j).1)), (1, .int ((bgt (lastT (sN S)) j).2)), (0, .ref o)] 10 [] := by
    intro d
    induction d with
    | zero =>
      intro j zl hj
      have h8 := hI.sz8
      refine j_iload_n 10 cx 0 dX6_last_10 rfl ?_
      refine j_aload_n 11 cx 3 dX6_last_11 rfl ?_
      refine j_get 12 cx 0 0 (T := TX6) (v := .ref ((am 0))) (fun _ h => List.mem_cons_of_mem _ (List.mem_append_right _ (h))) (List.mem_of_getElem? (i := 1) rfl) (ci := 5) rfl (by decide) rfl rfl rfl dX6_last_12 ?_
      refine j_iconst 15 cx 3 dX6_last_15 (by decide) ?_
      refine j_iald 16 cx 1 3 rfl rfl (by omega) (by decide) dX6_last_16 ?_
      refine j_top ((sN S) 0 3) rfl ?_
      refine j_top (nI (szN (sN S))) hI.sz ?_
      refine j_icmp_ge_T 17 cx 76 dX6_last_17 (by decide) (nI_le (by omega) (by omega)) ?_
      refine j_aload_n 76 cx 3 dX6_last_76 rfl ?_
      refine j_iload_n 77 cx 2 dX6_last_77 rfl ?_
      refine j_callV_i 78 cx 1 [0, 2] [.int ((bgt (lastT (sN S)) j).2)] (fun _ => wMO o am (sP S) zl (nI (sL S)) tk be an va bd ++ ([((am 0), .inl (gI G, 51, .inl (mm (sN S))))] ++ ([((am 3), .inl (gI G, 7, .inl (oF ((bgt (lastT (sN S)) j).2) (sF S))))] ++ [((am 2), .inl (gI G, 51, .inl (mm (sN S))))]))) (c_X6_orNone (kl K) G o am (sP S) zl (nI (sL S)) tk be an va bd (sF S) ((bgt (lastT (sN S)) j).2)) gX6_last_X6_orNone rfl rfl rfl ⟨rfl, by decide, by decide, rfl⟩ ⟨Nat.le_of_ble_eq_true rfl, Nat.le_of_ble_eq_true rfl⟩ ⟨Nat.zero_le _, Nat.zero_le _⟩ rfl (by decide) (ci := 5) 0 rfl rfl rfl rfl rfl (Nat.le_of_ble_eq_true rfl) dX6_last_78 (fun _ => rfl) (fun zu2 zk2 => ?_)
      refine j_top (oN ((bgt (lastT (sN S)) j).2)) rfl ?_
      have ze : (sp_last S) = (oN ((bgt (lastT (sN S)) j).2), stF S (oF ((bgt (lastT (sN S)) j).2) (sF S))) := by unfold sp_last; rw [show szN (sN S) = j from by omega]; exact orB_eq _ _
      exact fin (zl, (sN S)) _ _ _ _ dX6_last_81 rfl (by rw [ze] <;> rfl) (by rw [ze] <;> rfl) trivial
    | succ d ih10 =>
      intro j zl hj
      have h8 := hI.sz8
      refine j_iload_n 10 cx 0 dX6_last_10 rfl ?_
      refine j_aload_n 11 cx 3 dX6_last_11 rfl ?_
      refine j_get 12 cx 0 0 (T := TX6) (v := .ref ((am 0))) (fun _ h => List.mem_cons_of_mem _ (List.mem_append_right _ (h))) (List.mem_of_getElem? (i := 1) rfl) (ci := 5) rfl (by decide) rfl rfl rfl dX6_last_12 ?_
      refine j_iconst 15 cx 3 dX6_last_15 (by decide) ?_
      refine j_iald 16 cx 1 3 rfl rfl (by omega) (by decide) dX6_last_16 ?_
      refine j_top ((sN S) 0 3) rfl ?_
      refine j_top (nI (szN (sN S))) hI.sz ?_
      refine j_icmp_ge_F 17 cx 76 dX6_last_17 (by decide) (nI_ge (by omega) (by omega)) ?_
      refine j_aload_n 20 cx 3 dX6_last_20 rfl ?_
      refine j_iload_n 21 cx 0 dX6_last_21 rfl ?_
      refine j_sipush 22 cx 400 dX6_last_22 (by decide) ?_
      refine j_callV_i 25 cx 2 [0, 1, 3] [.int (nI j), .int 400] (fun zl1 => wMO o am (sP S) zl1 (nI (sL S)) tk be an va bd ++ ([((am 0), .inl (gI G, 51, .inl (mm (sN S))))] ++ ([((am 3), .inl (gI G, 7, .inl (sF S)))] ++ [((am 2), .inl (gI G, 51, .inl (mm (sN S))))]))) (c_X6_doneIn (kl K) G o am (sP S) zl (nI (sL S)) tk be an va bd (sN S) (sN S) hI j (by omega) 400 (by omega) (by have := hD; omega)) gX6_last_X6_doneIn rfl rfl rfl ⟨rfl, by decide, by decide, rfl⟩ ⟨Nat.le_of_ble_eq_true rfl, Nat.le_of_ble_eq_true rfl⟩ ⟨Nat.zero_le _, Nat.zero_le _⟩ rfl (by decide) (ci := 5) 0 rfl rfl rfl rfl rfl (Nat.le_of_ble_eq_true rfl) dX6_last_25 (fun _ => rfl) (fun zl1 zk3 => ?_)
      refine j_top (tM 400 (till (gDone j) 400 (sN S))) rfl ?_
      refine j_istore 28 cx [(4, .int (tM 400 (till (gDone j) 400 (sN S)))), (3, .int (nI j)), (2, .int (lM (bgt (lastT (sN S)) j).1)), (1, .int ((bgt (lastT (sN S)) j).2)), (0, .ref o)] dX6_last_28 (by decide) rfl ?_
      refine j_iload 30 cx 0 dX6_last_30 rfl ?_
      refine j_if_ge 32 cx 41 dX6_last_32 (by decide) (fun zc1 => ?_) (fun zc1 => ?_)
      · skip
        refine j_iload 41 cx 0 dX6_last_41 rfl ?_
        refine j_top (nI (lastT (sN S) j)) (tM_ok (Int32.not_lt.mpr zc1)) ?_
        refine j_istore 43 cx [(4, .int (nI (lastT (sN S) j))), (3, .int (nI j)), (2, .int (lM (bgt (lastT (sN S)) j).1)), (1, .int ((bgt (lastT (sN S)) j).2)), (0, .ref o)] dX6_last_43 (by decide) rfl ?_
        refine j_iload 45 cx 0 dX6_last_45 rfl ?_
        refine j_iload_n 47 cx 2 dX6_last_47 rfl ?_
        refine j_icmp_le 48 cx 55 dX6_last_48 (by decide) (fun zc2 => ?_) (fun zc2 => ?_)
        · skip
          refine j_iload_n 55 cx 3 dX6_last_55 rfl ?_
          refine j_istore_n 56 cx [(1, .int ((bgt (lastT (sN S)) j).2)), (4, .int (nI (lastT (sN S) j))), (3, .int (nI j)), (2, .int (lM (bgt (lastT (sN S)) j).1)), (0, .ref o)] dX6_last_56 (by decide) rfl ?_
          refine j_iload 57 cx 1 dX6_last_57 rfl ?_
          refine j_iload_n 59 cx 3 dX6_last_59 rfl ?_
          refine j_icmp_le_T 60 cx 68 dX6_last_60 (by decide) zc2 ?_
          refine j_iload_n 68 cx 3 dX6_last_68 rfl ?_
          refine j_istore_n 69 cx [(2, .int (lM (bgt (lastT (sN S)) j).1)), (1, .int ((bgt (lastT (sN S)) j).2)), (4, .int (nI (lastT (sN S) j))), (3, .int (nI j)), (0, .ref o)] dX6_last_69 (by decide) rfl ?_
          refine j_iinc 70 cx [(3, .int (nI (j + 1))), (2, .int (lM (bgt (lastT (sN S)) j).1)), (1, .int ((bgt (lastT (sN S)) j).2)), (4, .int (nI (lastT (sN S) j))), (0, .ref o)] 3 (nI (j + 1)) dX6_last_70 rfl (iinc1 j) (by decide) rfl ?_
          refine j_goto 73 cx 10 dX6_last_73 (by decide) ?_
          refine j_lv [0, 1, 2, 4] rfl ?_
          have h9 := ih10 (j + 1) zl1 (by omega)
          rw [bgt_fM (t := lastT (sN S)) (lastT_le _) zc2] at h9
          exact h9
        · skip
          refine j_iload_n 51 cx 1 dX6_last_51 rfl ?_
          refine j_goto 52 cx 56 dX6_last_52 (by decide) ?_
          refine j_istore_n 56 cx [(1, .int (nI j)), (4, .int (nI (lastT (sN S) j))), (3, .int (nI j)), (2, .int (lM (bgt (lastT (sN S)) j).1)), (0, .ref o)] dX6_last_56 (by decide) rfl ?_
          refine j_iload 57 cx 1 dX6_last_57 rfl ?_
          refine j_iload_n 59 cx 3 dX6_last_59 rfl ?_
          refine j_icmp_le_F 60 cx 68 dX6_last_60 (by decide) zc2 ?_
          refine j_iload 63 cx 1 dX6_last_63 rfl ?_
          refine j_goto 65 cx 69 dX6_last_65 (by decide) ?_
          refine j_istore_n 69 cx [(2, .int (nI (lastT (sN S) j))), (1, .int (nI j)), (4, .int (nI (lastT (sN S) j))), (3, .int (nI j)), (0, .ref o)] dX6_last_69 (by decide) rfl ?_
          refine j_iinc 70 cx [(3, .int (nI (j + 1))), (2, .int (nI (lastT (sN S) j))), (1, .int (nI j)), (4, .int (nI (lastT (sN S) j))), (0, .ref o)] 3 (nI (j + 1)) dX6_last_70 rfl (iinc1 j) (by decide) rfl ?_
          refine j_goto 73 cx 10 dX6_last_73 (by decide) ?_
          refine j_lv [0, 1, 2, 4] rfl ?_
          have h9 := ih10 (j + 1) zl1 (by omega)
          rw [bgt_tM (t := lastT (sN S)) (lastT_le _) zc2] at h9
          rw [show lM ((lastT (sN S) j + 1, nI j) : Nat × Int32).1 = nI (lastT (sN S) j) from lM_s _] at h9
          exact h9
      · skip
        refine j_sipush 35 cx 401 dX6_last_35 (by decide) ?_
        refine j_goto 38 cx 43 dX6_last_38 (by decide) ?_
        refine j_top (nI (lastT (sN S) j)) (tM_401 (lastT_le _ _) (Int32.not_le.mp zc1)) ?_
        refine j_istore 43 cx [(4, .int (nI (lastT (sN S) j))), (3, .int (nI j)), (2, .int (lM (bgt (lastT (sN S)) j).1)), (1, .int ((bgt (lastT (sN S)) j).2)), (0, .ref o)] dX6_last_43 (by decide) rfl ?_
        refine j_iload 45 cx 0 dX6_last_45 rfl ?_
        refine j_iload_n 47 cx 2 dX6_last_47 rfl ?_
        refine j_icmp_le 48 cx 55 dX6_last_48 (by decide) (fun zc3 => ?_) (fun zc3 => ?_)
        · skip
          refine j_iload_n 55 cx 3 dX6_last_55 rfl ?_
          refine j_istore_n 56 cx [(1, .int ((bgt (lastT (sN S)) j).2)), (4, .int (nI (lastT (sN S) j))), (3, .int (nI j)), (2, .int (lM (bgt (lastT (sN S)) j).1)), (0, .ref o)] dX6_last_56 (by decide) rfl ?_
          refine j_iload 57 cx 1 dX6_last_57 rfl ?_
          refine j_iload_n 59 cx 3 dX6_last_59 rfl ?_
          refine j_icmp_le_T 60 cx 68 dX6_last_60 (by decide) zc3 ?_
          refine j_iload_n 68 cx 3 dX6_last_68 rfl ?_
          refine j_istore_n 69 cx [(2, .int (lM (bgt (lastT (sN S)) j).1)), (1, .int ((bgt (lastT (sN S)) j).2)), (4, .int (nI (lastT (sN S) j))), (3, .int (nI j)), (0, .ref o)] dX6_last_69 (by decide) rfl ?_
          refine j_iinc 70 cx [(3, .int (nI (j + 1))), (2, .int (lM (bgt (lastT (sN S)) j).1)), (1, .int ((bgt (lastT (sN S)) j).2)), (4, .int (nI (lastT (sN S) j))), (0, .ref o)] 3 (nI (j + 1)) dX6_last_70 rfl (iinc1 j) (by decide) rfl ?_
          refine j_goto 73 cx 10 dX6_last_73 (by decide) ?_
          refine j_lv [0, 1, 2, 4] rfl ?_
          have h9 := ih10 (j + 1) zl1 (by omega)
          rw [bgt_fM (t := lastT (sN S)) (lastT_le _) zc3] at h9
          exact h9
        · skip
          refine j_iload_n 51 cx 1 dX6_last_51 rfl ?_
          refine j_goto 52 cx 56 dX6_last_52 (by decide) ?_
          refine j_istore_n 56 cx [(1, .int (nI j)), (4, .int (nI (lastT (sN S) j))), (3, .int (nI j)), (2, .int (lM (bgt (lastT (sN S)) j).1)), (0, .ref o)] dX6_last_56 (by decide) rfl ?_
          refine j_iload 57 cx 1 dX6_last_57 rfl ?_
          refine j_iload_n 59 cx 3 dX6_last_59 rfl ?_
          refine j_icmp_le_F 60 cx 68 dX6_last_60 (by decide) zc3 ?_
          refine j_iload 63 cx 1 dX6_last_63 rfl ?_
          refine j_goto 65 cx 69 dX6_last_65 (by decide) ?_
          refine j_istore_n 69 cx [(2, .int (nI (lastT (sN S) j))), (1, .int (nI j)), (4, .int (nI (lastT (sN S) j))), (3, .int (nI j)), (0, .ref o)] dX6_last_69 (by decide) rfl ?_
          refine j_iinc 70 cx [(3, .int (nI (j + 1))), (2, .int (nI (lastT (sN S) j))), (1, .int (nI j)), (4, .int (nI (lastT (sN S) j))), (0, .ref o)] 3 (nI (j + 1)) dX6_last_70 rfl (iinc1 j) (by decide) rfl ?_
          refine j_goto 73 cx 10 dX6_last_73 (by decide) ?_
          refine j_lv [0, 1, 2, 4] rfl ?_
          have h9 := ih10 (j + 1) zl1 (by omega)
          rw [bgt_tM (t := lastT (sN S)) (lastT_le _) zc3] at h9
          rw [show lM ((lastT (sN S) j + 1, nI j) : Nat × Int32).1 = nI (lastT (sN S) j) from lM_s _] at h9
          exact h9
  exact L10 (szN (sN S)) 0 la (by omega)
set_option maxRecDepth 100000 in
set_option maxHeartbeats 4000000 in
theorem c_X6_bears (l : Launch) (G : pG) (o : Nat) (am : Nat → Nat) (S : St) (la tk be an va : Int32) (bd : Bool) (ω : Nu) (hI : Inv (sN S)) (hD : dyN (sN S) ≤ 9999) (n : Int32) : KI l G yX6_bears wsX6_bears ({ frames := 8, cells := 0, slots := 0, locals := 179 } : Room) [.ref o, .int n] (wMO o am (sP S) la (nI (sL S)) tk be an va bd ++ ([((am 0), .inl (gI G, 51, .inl (mm (sN S))))] ++ ([((am 3), .inl (gI G, 7, .inl (sF S)))] ++ [((am 2), .inl (gI G, 51, .inl (mm ω)))]))) (S := (Int32 × Nu)) (fun _ => True) (fun u => (sp_bears n S).1) (fun u => wMO o am (sP S) (u.1) (nI (sL S)) tk be an va bd ++ ([((am 0), .inl (gI G, 51, .inl (mm (sN (sp_bears n S).2))))] ++ ([((am 3), .inl (gI G, 7, .inl (sF (sp_bears n S).2)))] ++ [((am 2), .inl (gI G, 51, .inl (mm u.2)))]))) := by
  refine ki_of [(0, .ref o), (1, .int n)] (own := RX6) (cc := cX6_bears) (nL := 4) (by decide +kernel) rfl rfl (Nat.le_of_ble_eq_true rfl) rfl (fun _ => rfl) (fun K cx fin => ?_)
  refine j_iload_n 0 cx 1 dX6_bears_0 rfl ?_
  refine j_i2l 1 cx dX6_bears_1 ?_
  refine j_iconst 2 cx 1 dX6_bears_2 (by decide) ?_
  refine j_sipush 3 cx 200 dX6_bears_3 (by decide) ?_
  refine j_callS_i 6 cx 3 [] [.long (n.toInt64), .int 1, .int 200] (fun _ => wMO o am (sP S) la (nI (sL S)) tk be an va bd ++ ([((am 0), .inl (gI G, 51, .inl (mm (sN S))))] ++ ([((am 3), .inl (gI G, 7, .inl (sF S)))] ++ [((am 2), .inl (gI G, 51, .inl (mm ω)))]))) (c_X6_in (kl K) G (n.toInt64) 1 200) gX6_bears_X6_in rfl rfl rfl ⟨by decide, by decide, rfl⟩ ⟨Nat.le_of_ble_eq_true rfl, Nat.le_of_ble_eq_true rfl⟩ ⟨Nat.zero_le _, Nat.zero_le _⟩ rfl (by decide) rfl rfl (Nat.le_of_ble_eq_true rfl) dX6_bears_6 (fun _ => rfl) (fun zu1 zk1 => ?_)
  refine j_top (bI (inL (n.toInt64) 1 200)) rfl ?_
  refine j_top (bI (inI n 1 200)) (congrArg bI (inL_i n 1 200)) ?_
  refine j_ifB_ne 9 cx 19 dX6_bears_9 (by decide) (fun zc1 => ?_) (fun zc1 => ?_)
  · skip
    obtain ⟨kn, hkn1, hkn2, rfl⟩ := in_c (L := 1) (M := 200) (a := 1) (m := 200) rfl rfl zc1
    have hckn : (nI kn).toNatClampNeg = kn := nI_clamp (by omega)
    refine j_aload_n 19 cx 0 dX6_bears_19 rfl ?_
    refine j_callV_v 20 cx 0 [0, 1, 3] [] (fun _ => wMO o am (sP S) la (nI (sL S)) tk be an va bd ++ ([((am 0), .inl (gI G, 51, .inl (mm (sN S))))] ++ ([((am 3), .inl (gI G, 7, .inl (sF S)))] ++ [((am 2), .inl (gI G, 51, .inl (mm (sN S))))]))) (c_X6_thinks (kl K) G o am (sP S) la (nI (sL S)) tk be an va bd (sN S) ω) gX6_bears_X6_thinks rfl rfl rfl ⟨rfl, by decide, by decide, rfl⟩ ⟨Nat.le_of_ble_eq_true rfl, Nat.le_of_ble_eq_true rfl⟩ ⟨Nat.zero_le _, Nat.zero_le _⟩ rfl (by decide) (ci := 5) 0 rfl rfl rfl rfl rfl (Nat.le_of_ble_eq_true rfl) dX6_bears_20 (fun _ => rfl) (fun zu2 zk2 => ?_)
    refine j_iconst 23 cx (-1) dX6_bears_23 (by decide) ?_
    refine j_istore_n 24 cx [(2, .int ((-1))), (0, .ref o), (1, .int (nI kn))] dX6_bears_24 (by decide) rfl ?_
    refine j_bipush 25 cx 99 dX6_bears_25 (by decide) ?_
    refine j_istore_n 27 cx [(3, .int 99), (2, .int ((-1))), (0, .ref o), (1, .int (nI kn))] dX6_bears_27 (by decide) rfl ?_
    have L28 : ∀ d : Nat, ∀ (x : Nat) (r zl : Int32), (x = d) → (x ≤ 100) → (FR 0 (bearG (sN S) kn) 100 r x) → JJ G K 0 0 (wMO o am (sP S) zl (nI (sL S)) tk be an va bd ++ ([((am 0), .inl (gI G, 51, .inl (mm (sN S))))] ++ ([((am 3), .inl (gI G, 7, .inl (sF S)))] ++ [((am 2), .inl (gI G, 51, .inl (mm (sN S))))]))) [(3, .int (nI x - 1)), (2, .int r), (1, .int (nI kn)), (0, .ref o)] 28 [] := by
      intro d
      induction d with
      | zero =>
        intro x r zl hx hN hR
        subst hx
        rw [show nI 0 - 1 = -1 from rfl]
        refine j_iload_n 28 cx 0 dX6_bears_28 rfl ?_
        refine j_if_lt_T 29 cx 71 dX6_bears_29 (by decide) (by decide) ?_
        refine j_aload_n 71 cx 3 dX6_bears_71 rfl ?_
        refine j_iload_n 72 cx 1 dX6_bears_72 rfl ?_
        refine j_callV_i 73 cx 1 [0, 2] [.int r] (fun _ => wMO o am (sP S) zl (nI (sL S)) tk be an va bd ++ ([((am 0), .inl (gI G, 51, .inl (mm (sN S))))] ++ ([((am 3), .inl (gI G, 7, .inl (oF r (sF S))))] ++ [((am 2), .inl (gI G, 51, .inl (mm (sN S))))]))) (c_X6_orNone (kl K) G o am (sP S) zl (nI (sL S)) tk be an va bd (sF S) r) gX6_bears_X6_orNone rfl rfl rfl ⟨rfl, by decide, by decide, rfl⟩ ⟨Nat.le_of_ble_eq_true rfl, Nat.le_of_ble_eq_true rfl⟩ ⟨Nat.zero_le _, Nat.zero_le _⟩ rfl (by decide) (ci := 5) 0 rfl rfl rfl rfl rfl (Nat.le_of_ble_eq_true rfl) dX6_bears_73 (fun _ => rfl) (fun zu3 zk3 => ?_)
        refine j_top (oN r) rfl ?_
        have ze : (sp_bears (nI kn) S) = (oN r, stF S (oF r (sF S))) := by unfold sp_bears; rw [if_pos zc1, show pN (nI kn) = kn from hckn, fr_end hR]; exact orB_eq _ _
        exact fin (zl, (sN S)) _ _ _ _ dX6_bears_76 rfl (by rw [ze] <;> rfl) (by rw [ze] <;> rfl) trivial
      | succ d ih28 =>
        intro x r zl hx hN hR
        subst hx
        rw [nI_s1]
        refine j_iload_n 28 cx 0 dX6_bears_28 rfl ?_
        refine j_if_lt_F 29 cx 71 dX6_bears_29 (by decide) (nI_pos (by omega)) ?_
        refine j_iload_n 32 cx 1 dX6_bears_32 rfl ?_
        refine j_if_ge 33 cx 71 dX6_bears_33 (by decide) (fun zc2 => ?_) (fun zc2 => ?_)
        · skip
          refine j_aload_n 71 cx 3 dX6_bears_71 rfl ?_
          refine j_iload_n 72 cx 1 dX6_bears_72 rfl ?_
          refine j_callV_i 73 cx 1 [0, 2] [.int r] (fun _ => wMO o am (sP S) zl (nI (sL S)) tk be an va bd ++ ([((am 0), .inl (gI G, 51, .inl (mm (sN S))))] ++ ([((am 3), .inl (gI G, 7, .inl (oF r (sF S))))] ++ [((am 2), .inl (gI G, 51, .inl (mm (sN S))))]))) (c_X6_orNone (kl K) G o am (sP S) zl (nI (sL S)) tk be an va bd (sF S) r) gX6_bears_X6_orNone rfl rfl rfl ⟨rfl, by decide, by decide, rfl⟩ ⟨Nat.le_of_ble_eq_true rfl, Nat.le_of_ble_eq_true rfl⟩ ⟨Nat.zero_le _, Nat.zero_le _⟩ rfl (by decide) (ci := 5) 0 rfl rfl rfl rfl rfl (Nat.le_of_ble_eq_true rfl) dX6_bears_73 (fun _ => rfl) (fun zu4 zk4 => ?_)
          refine j_top (oN r) rfl ?_
          have ze : (sp_bears (nI kn) S) = (oN r, stF S (oF r (sF S))) := by unfold sp_bears; rw [if_pos zc1, show pN (nI kn) = kn from hckn, fr_got hR zc2]; exact orB_eq _ _
          exact fin (zl, (sN S)) _ _ _ _ dX6_bears_76 rfl (by rw [ze] <;> rfl) (by rw [ze] <;> rfl) trivial
        · skip
          refine j_aload_n 36 cx 3 dX6_bears_36 rfl ?_
          refine j_get 37 cx 0 0 (T := TX6) (v := .ref ((am 0))) (fun _ h => List.mem_cons_of_mem _ (List.mem_append_right _ (h))) (List.mem_of_getElem? (i := 2) rfl) (ci := 5) rfl (by decide) rfl rfl rfl dX6_bears_37 ?_
          refine j_iconst 40 cx 1 dX6_bears_40 (by decide) ?_
          refine j_iload_n 41 cx 0 dX6_bears_41 rfl ?_
          refine j_iast 42 cx 1 1 (wMO o am (sP S) zl (nI (sL S)) tk be an va bd ++ ([((am 0), .inl (gI G, 51, .inl (upd (mm (sN S)) 1 (nI d))))] ++ ([((am 3), .inl (gI G, 7, .inl (sF S)))] ++ [((am 2), .inl (gI G, 51, .inl (mm (sN S))))]))) rfl rfl (by omega) (by decide) rfl dX6_bears_42 ?_
          refine j_ws (wMO o am (sP S) zl (nI (sL S)) tk be an va bd ++ ([((am 0), .inl (gI G, 51, .inl (mm (up2 (sN S) 0 1 (nI d)))))] ++ ([((am 3), .inl (gI G, 7, .inl (sF S)))] ++ [((am 2), .inl (gI G, 51, .inl (mm (sN S))))]))) (congrArg (fun zf : Nat → Int32 => wMO o am (sP S) zl (nI (sL S)) tk be an va bd ++ ([((am 0), .inl (gI G, 51, .inl zf))] ++ ([((am 3), .inl (gI G, 7, .inl (sF S)))] ++ [((am 2), .inl (gI G, 51, .inl (mm (sN S))))]))) (mm_usc _ _ (by omega))) ?_
          refine j_aload_n 43 cx 3 dX6_bears_43 rfl ?_
          refine j_iload_n 44 cx 2 dX6_bears_44 rfl ?_
          refine j_callV_v 45 cx 1 [0, 1] [.int (nI kn)] (fun zl1 => wMO o am (sP S) zl1 (nI (sL S)) tk be an va bd ++ ([((am 0), .inl (gI G, 51, .inl (mm (daysF (up2 (sN S) 0 1 (nI d)) kn))))] ++ ([((am 3), .inl (gI G, 7, .inl (sF S)))] ++ [((am 2), .inl (gI G, 51, .inl (mm (sN S))))]))) (c_X6_goesFor (kl K) G o am (sP S) zl (nI (sL S)) tk be an va bd (up2 (sN S) 0 1 (nI d)) (inv_upw hI (nI_99 (by omega))) kn (by have h9 : dyN (up2 (sN S) 0 1 (nI d)) ≤ 9999 := hD; omega)) gX6_bears_X6_goesFor rfl rfl rfl ⟨rfl, by decide, by decide, rfl⟩ ⟨Nat.le_of_ble_eq_true rfl, Nat.le_of_ble_eq_true rfl⟩ ⟨Nat.zero_le _, Nat.zero_le _⟩ rfl (by decide) (ci := 5) 0 rfl rfl rfl rfl rfl (Nat.le_of_ble_eq_true rfl) dX6_bears_45 (fun _ => rfl) (fun zl1 zk5 => ?_)
          refine j_aload_n 48 cx 3 dX6_bears_48 rfl ?_
          refine j_callV_i 49 cx 0 [0, 1] [] (fun _ => wMO o am (sP S) zl1 (nI (sL S)) tk be an va bd ++ ([((am 0), .inl (gI G, 51, .inl (mm (daysF (up2 (sN S) 0 1 (nI d)) kn))))] ++ ([((am 3), .inl (gI G, 7, .inl (sF S)))] ++ [((am 2), .inl (gI G, 51, .inl (mm (sN S))))]))) (c_X6_areDone (kl K) G o am (sP S) zl1 (nI (sL S)) tk be an va bd (daysF (up2 (sN S) 0 1 (nI d)) kn)  (inv_daysF (inv_upw hI (nI_99 (by omega))) kn (by have h9 : dyN (up2 (sN S) 0 1 (nI d)) ≤ 9999 := hD; omega)).1 ) gX6_bears_X6_areDone rfl rfl rfl ⟨rfl, by decide, by decide, rfl⟩ ⟨Nat.le_of_ble_eq_true rfl, Nat.le_of_ble_eq_true rfl⟩ ⟨Nat.zero_le _, Nat.zero_le _⟩ rfl (by decide) (ci := 5) 0 rfl rfl rfl rfl rfl (Nat.le_of_ble_eq_true rfl) dX6_bears_49 (fun _ => rfl) (fun zu6 zk6 => ?_)
          refine j_top (bI (gAll (daysF (up2 (sN S) 0 1 (nI d)) kn))) rfl ?_
          refine j_ifB_eq 52 cx 59 dX6_bears_52 (by decide) (fun zc3 => ?_) (fun zc3 => ?_)
          · skip
            refine j_iconst 59 cx (-1) dX6_bears_59 (by decide) ?_
            refine j_istore_n 60 cx [(2, .int ((-1))), (3, .int (nI d)), (1, .int (nI kn)), (0, .ref o)] dX6_bears_60 (by decide) rfl ?_
            refine j_aload_n 61 cx 3 dX6_bears_61 rfl ?_
            refine j_callV_v 62 cx 0 [0, 1, 3] [] (fun _ => wMO o am (sP S) zl1 (nI (sL S)) tk be an va bd ++ ([((am 0), .inl (gI G, 51, .inl (mm (sN S))))] ++ ([((am 3), .inl (gI G, 7, .inl (sF S)))] ++ [((am 2), .inl (gI G, 51, .inl (mm (sN S))))]))) (c_X6_putsBack (kl K) G o am (sP S) zl1 (nI (sL S)) tk be an va bd (daysF (up2 (sN S) 0 1 (nI d)) kn) (sN S)) gX6_bears_X6_putsBack rfl rfl rfl ⟨rfl, by decide, by decide, rfl⟩ ⟨Nat.le_of_ble_eq_true rfl, Nat.le_of_ble_eq_true rfl⟩ ⟨Nat.zero_le _, Nat.zero_le _⟩ rfl (by decide) (ci := 5) 0 rfl rfl rfl rfl rfl (Nat.le_of_ble_eq_true rfl) dX6_bears_62 (fun _ => rfl) (fun zu7 zk7 => ?_)
            refine j_iinc 65 cx [(3, .int (nI d - 1)), (2, .int ((-1))), (1, .int (nI kn)), (0, .ref o)] 1 (nI d - 1) dX6_bears_65 rfl (i_m1 _) (by decide) rfl ?_
            refine j_goto 68 cx 28 dX6_bears_68 (by decide) ?_
            exact ih28 d (-1) zl1 rfl (by omega) (fr_no hR zc2 zc3)
          · skip
            refine j_iload_n 55 cx 0 dX6_bears_55 rfl ?_
            refine j_goto 56 cx 60 dX6_bears_56 (by decide) ?_
            refine j_istore_n 60 cx [(2, .int (nI d)), (3, .int (nI d)), (1, .int (nI kn)), (0, .ref o)] dX6_bears_60 (by decide) rfl ?_
            refine j_aload_n 61 cx 3 dX6_bears_61 rfl ?_
            refine j_callV_v 62 cx 0 [0, 1, 3] [] (fun _ => wMO o am (sP S) zl1 (nI (sL S)) tk be an va bd ++ ([((am 0), .inl (gI G, 51, .inl (mm (sN S))))] ++ ([((am 3), .inl (gI G, 7, .inl (sF S)))] ++ [((am 2), .inl (gI G, 51, .inl (mm (sN S))))]))) (c_X6_putsBack (kl K) G o am (sP S) zl1 (nI (sL S)) tk be an va bd (daysF (up2 (sN S) 0 1 (nI d)) kn) (sN S)) gX6_bears_X6_putsBack rfl rfl rfl ⟨rfl, by decide, by decide, rfl⟩ ⟨Nat.le_of_ble_eq_true rfl, Nat.le_of_ble_eq_true rfl⟩ ⟨Nat.zero_le _, Nat.zero_le _⟩ rfl (by decide) (ci := 5) 0 rfl rfl rfl rfl rfl (Nat.le_of_ble_eq_true rfl) dX6_bears_62 (fun _ => rfl) (fun zu8 zk8 => ?_)
            refine j_iinc 65 cx [(3, .int (nI d - 1)), (2, .int (nI d)), (1, .int (nI kn)), (0, .ref o)] 1 (nI d - 1) dX6_bears_65 rfl (i_m1 _) (by decide) rfl ?_
            refine j_goto 68 cx 28 dX6_bears_68 (by decide) ?_
            exact ih28 d (nI d) zl1 rfl (by omega) (fr_yes hR zc2 zc3 (by omega))
    refine j_lv [0, 1, 3, 2] rfl ?_
    exact L28 100 100 (-1) la rfl (by omega) (fr_start _ _ _)
  · skip
    refine j_aload_n 12 cx 0 dX6_bears_12 rfl ?_
    refine j_ldc 13 cx (v := -1000000001) (List.mem_of_getElem? (i := 1) rfl) dX6_bears_13 ?_
    refine j_callV_i 15 cx 1 [0, 2] [.int (fcode 0)] (fun _ => wMO o am (sP S) la (nI (sL S)) tk be an va bd ++ ([((am 0), .inl (gI G, 51, .inl (mm (sN S))))] ++ ([((am 3), .inl (gI G, 7, .inl (upd (sF S) 0 ((sF S) 0 + 1))))] ++ [((am 2), .inl (gI G, 51, .inl (mm ω)))]))) (c_X6_finds (kl K) G o am (sP S) la (nI (sL S)) tk be an va bd (sF S) 0 (by decide)) gX6_bears_X6_finds rfl rfl rfl ⟨rfl, by decide, by decide, rfl⟩ ⟨Nat.le_of_ble_eq_true rfl, Nat.le_of_ble_eq_true rfl⟩ ⟨Nat.zero_le _, Nat.zero_le _⟩ rfl (by decide) (ci := 5) 0 rfl rfl rfl rfl rfl (Nat.le_of_ble_eq_true rfl) dX6_bears_15 (fun _ => rfl) (fun zu9 zk9 => ?_)
    refine j_top (fcode 0) rfl ?_
    have ze : (sp_bears n S) = bad S 0 := by unfold sp_bears; simp [isP_eq hI, bI_t, bI_f, zc1]
    exact fin (la, ω) _ _ _ _ dX6_bears_18 rfl (by rw [ze] <;> rfl) (by rw [ze] <;> rfl) trivial
set_option maxRecDepth 100000 in
set_option maxHeartbeats 4000000 in
theorem c_X6_longest (l : Launch) (G : pG) (o : Nat) (am : Nat → Nat) (S : St) (la tk be an va : Int32) (bd : Bool) (ω : Nu) (hI : Inv (sN S)) (hD : dyN (sN S) ≤ 9999) (p : Int32) : KI l G yX6_longest wsX6_longest ({ frames := 8, cells := 0, slots := 0, locals := 179 } : Room) [.ref o, .int p] (wMO o am (sP S) la (nI (sL S)) tk be an va bd ++ ([((am 0), .inl (gI G, 51, .inl (mm (sN S))))] ++ ([((am 3), .inl (gI G, 7, .inl (sF S)))] ++ [((am 2), .inl (gI G, 51, .inl (mm ω)))]))) (S := (Int32 × Nu)) (fun _ => True) (fun u => (sp_longest p S).1) (fun u => wMO o am (sP S) (u.1) (nI (sL S)) tk be an va bd ++ ([((am 0), .inl (gI G, 51, .inl (mm (sN (sp_longest p S).2))))] ++ ([((am 3), .inl (gI G, 7, .inl (sF (sp_longest p S).2)))] ++ [((am 2), .inl (gI G, 51, .inl (mm u.2)))]))) := by
  refine ki_of [(0, .ref o), (1, .int p)] (own := RX6) (cc := cX6_longest) (nL := 5) (by decide +kernel) rfl rfl (Nat.le_of_ble_eq_true rfl) rfl (fun _ => rfl) (fun K cx fin => ?_)
  refine j_aload_n 0 cx 0 dX6_longest_0 rfl ?_
  refine j_iload_n 1 cx 1 dX6_longest_1 rfl ?_
  refine j_callV_i 2 cx 1 [0, 1] [.int p] (fun _ => wMO o am (sP S) la (nI (sL S)) tk be an va bd ++ ([((am 0), .inl (gI G, 51, .inl (mm (sN S))))] ++ ([((am 3), .inl (gI G, 7, .inl (sF S)))] ++ [((am 2), .inl (gI G, 51, .inl (mm ω)))]))) (c_X6_isPart (kl K) G o am (sP S) la (nI (sL S)) tk be an va bd (sN S) p hI ) gX6_longest_X6_isPart rfl rfl rfl ⟨rfl, by decide, by decide, rfl⟩ ⟨Nat.le_of_ble_eq_true rfl, Nat.le_of_ble_eq_true rfl⟩ ⟨Nat.zero_le _, Nat.zero_le _⟩ rfl (by decide) (ci := 5) 0 rfl rfl rfl rfl rfl (Nat.le_of_ble_eq_true rfl) dX6_longest_2 (fun _ => rfl) (fun zu1 zk1 => ?_)
  refine j_top (bI (inI p 0 (nI (szN (sN S)) - 1))) rfl ?_
  refine j_ifB_ne 5 cx 15 dX6_longest_5 (by decide) (fun zc1 => ?_) (fun zc1 => ?_)
  · skip
    obtain ⟨k, hk, rfl⟩ := in_n (by have := hI.sz8; omega) zc1
    have h8 := hI.sz8
    have hkc : (nI k).toNatClampNeg = k := nI_clamp (by omega)
    refine j_aload_n 15 cx 0 dX6_longest_15 rfl ?_
    refine j_iload_n 16 cx 1 dX6_longest_16 rfl ?_
    refine j_iconst 17 cx 3 dX6_longest_17 (by decide) ?_
    refine j_callV_i 18 cx 2 [0, 1] [.int (nI k), .int 3] (fun _ => wMO o am (sP S) la (nI (sL S)) tk be an va bd ++ ([((am 0), .inl (gI G, 51, .inl (mm (sN S))))] ++ ([((am 3), .inl (gI G, 7, .inl (sF S)))] ++ [((am 2), .inl (gI G, 51, .inl (mm ω)))]))) (c_X6_it (kl K) G o am (sP S) la (nI (sL S)) tk be an va bd (sN S) k 3 (by omega) (by omega) ) gX6_longest_X6_it rfl rfl rfl ⟨rfl, by decide, by decide, rfl⟩ ⟨Nat.le_of_ble_eq_true rfl, Nat.le_of_ble_eq_true rfl⟩ ⟨Nat.zero_le _, Nat.zero_le _⟩ rfl (by decide) (ci := 5) 0 rfl rfl rfl rfl rfl (Nat.le_of_ble_eq_true rfl) dX6_longest_18 (fun _ => rfl) (fun zu2 zk2 => ?_)
    refine j_top ((sN S) 5 k) rfl ?_
    refine j_aload_n 21 cx 0 dX6_longest_21 rfl ?_
    refine j_get 22 cx 0 0 (T := TX6) (v := .ref ((am 0))) (fun _ h => List.mem_cons_of_mem _ (List.mem_append_right _ (h))) (List.mem_of_getElem? (i := 2) rfl) (ci := 5) rfl (by decide) rfl rfl rfl dX6_longest_22 ?_
    refine j_iconst 25 cx 0 dX6_longest_25 (by decide) ?_
    refine j_iald 26 cx 1 0 rfl rfl (by omega) (by decide) dX6_longest_26 ?_
    refine j_top ((sN S) 0 0) rfl ?_
    refine j_isub 27 cx dX6_longest_27 ?_
    refine j_iconst 28 cx 1 dX6_longest_28 (by decide) ?_
    refine j_iadd 29 cx dX6_longest_29 ?_
    refine j_top (((sN S) 5 k - (sN S) 0 0 + 1)) rfl ?_
    refine j_istore_n 30 cx [(2, .int ((sN S) 5 k - (sN S) 0 0 + 1)), (0, .ref o), (1, .int (nI k))] dX6_longest_30 (by decide) rfl ?_
    refine j_iload_n 31 cx 0 dX6_longest_31 rfl ?_
    refine j_iconst 32 cx 1 dX6_longest_32 (by decide) ?_
    refine j_icmp_lt 33 cx 43 dX6_longest_33 (by decide) (fun zc2 => ?_) (fun zc2 => ?_)
    · skip
      refine j_aload_n 43 cx 1 dX6_longest_43 rfl ?_
      refine j_ldc 44 cx (v := -1000000005) (List.mem_of_getElem? (i := 3) rfl) dX6_longest_44 ?_
      refine j_callV_i 46 cx 1 [0, 2] [.int (fcode 4)] (fun _ => wMO o am (sP S) la (nI (sL S)) tk be an va bd ++ ([((am 0), .inl (gI G, 51, .inl (mm (sN S))))] ++ ([((am 3), .inl (gI G, 7, .inl (upd (sF S) 4 ((sF S) 4 + 1))))] ++ [((am 2), .inl (gI G, 51, .inl (mm ω)))]))) (c_X6_finds (kl K) G o am (sP S) la (nI (sL S)) tk be an va bd (sF S) 4 (by decide)) gX6_longest_X6_finds rfl rfl rfl ⟨rfl, by decide, by decide, rfl⟩ ⟨Nat.le_of_ble_eq_true rfl, Nat.le_of_ble_eq_true rfl⟩ ⟨Nat.zero_le _, Nat.zero_le _⟩ rfl (by decide) (ci := 5) 0 rfl rfl rfl rfl rfl (Nat.le_of_ble_eq_true rfl) dX6_longest_46 (fun _ => rfl) (fun zu3 zk3 => ?_)
      refine j_top (fcode 4) rfl ?_
      have ze : (sp_longest (nI k) S) = bad S 4 := by unfold sp_longest; rw [isP_eq hI, if_pos zc1, show pN (nI k) = k from hkc, if_neg (fun h => absurd zc2 (Int32.not_lt.mpr (inI_t h).1))]
      exact fin (la, ω) _ _ _ _ dX6_longest_49 rfl (by rw [ze] <;> rfl) (by rw [ze] <;> rfl) trivial
    · skip
      refine j_iload_n 36 cx 0 dX6_longest_36 rfl ?_
      refine j_sipush 37 cx 400 dX6_longest_37 (by decide) ?_
      refine j_icmp_le 40 cx 50 dX6_longest_40 (by decide) (fun zc3 => ?_) (fun zc3 => ?_)
      · skip
        have hin : inI ((sN S) 5 k - (sN S) 0 0 + 1) 1 400 = true := decide_eq_true ⟨Int32.not_lt.mp zc2, zc3⟩
        obtain ⟨kn, hkn1, hkn2, he⟩ := in_c (L := 1) (M := 400) (a := 1) (m := 400) rfl rfl hin
        rw [he]
        have hckn : (nI kn).toNatClampNeg = kn := nI_clamp (by omega)
        refine j_aload_n 50 cx 1 dX6_longest_50 rfl ?_
        refine j_callV_v 51 cx 0 [0, 1, 3] [] (fun _ => wMO o am (sP S) la (nI (sL S)) tk be an va bd ++ ([((am 0), .inl (gI G, 51, .inl (mm (sN S))))] ++ ([((am 3), .inl (gI G, 7, .inl (sF S)))] ++ [((am 2), .inl (gI G, 51, .inl (mm (sN S))))]))) (c_X6_thinks (kl K) G o am (sP S) la (nI (sL S)) tk be an va bd (sN S) ω) gX6_longest_X6_thinks rfl rfl rfl ⟨rfl, by decide, by decide, rfl⟩ ⟨Nat.le_of_ble_eq_true rfl, Nat.le_of_ble_eq_true rfl⟩ ⟨Nat.zero_le _, Nat.zero_le _⟩ rfl (by decide) (ci := 5) 0 rfl rfl rfl rfl rfl (Nat.le_of_ble_eq_true rfl) dX6_longest_51 (fun _ => rfl) (fun zu4 zk4 => ?_)
        refine j_iconst 54 cx (-1) dX6_longest_54 (by decide) ?_
        refine j_istore_n 55 cx [(3, .int ((-1))), (2, .int (nI kn)), (0, .ref o), (1, .int (nI k))] dX6_longest_55 (by decide) rfl ?_
        refine j_bipush 56 cx 99 dX6_longest_56 (by decide) ?_
        refine j_istore 58 cx [(4, .int 99), (3, .int ((-1))), (2, .int (nI kn)), (0, .ref o), (1, .int (nI k))] dX6_longest_58 (by decide) rfl ?_
        have L60 : ∀ d : Nat, ∀ (x : Nat) (r zl : Int32), (x = d) → (x ≤ 99) → (FR 1 (longG (sN S) k kn) 99 r x) → JJ G K 0 0 (wMO o am (sP S) zl (nI (sL S)) tk be an va bd ++ ([((am 0), .inl (gI G, 51, .inl (mm (sN S))))] ++ ([((am 3), .inl (gI G, 7, .inl (sF S)))] ++ [((am 2), .inl (gI G, 51, .inl (mm (sN S))))]))) [(4, .int (nI x)), (3, .int r), (2, .int (nI kn)), (1, .int (nI k)), (0, .ref o)] 60 [] := by
          intro d
          induction d with
          | zero =>
            intro x r zl hx hN hR
            subst hx
            refine j_iload 60 cx 0 dX6_longest_60 rfl ?_
            refine j_if_le_T 62 cx 107 dX6_longest_62 (by decide) (by decide) ?_
            refine j_aload_n 107 cx 4 dX6_longest_107 rfl ?_
            refine j_iload_n 108 cx 1 dX6_longest_108 rfl ?_
            refine j_callV_i 109 cx 1 [0, 2] [.int r] (fun _ => wMO o am (sP S) zl (nI (sL S)) tk be an va bd ++ ([((am 0), .inl (gI G, 51, .inl (mm (sN S))))] ++ ([((am 3), .inl (gI G, 7, .inl (oF r (sF S))))] ++ [((am 2), .inl (gI G, 51, .inl (mm (sN S))))]))) (c_X6_orNone (kl K) G o am (sP S) zl (nI (sL S)) tk be an va bd (sF S) r) gX6_longest_X6_orNone rfl rfl rfl ⟨rfl, by decide, by decide, rfl⟩ ⟨Nat.le_of_ble_eq_true rfl, Nat.le_of_ble_eq_true rfl⟩ ⟨Nat.zero_le _, Nat.zero_le _⟩ rfl (by decide) (ci := 5) 0 rfl rfl rfl rfl rfl (Nat.le_of_ble_eq_true rfl) dX6_longest_109 (fun _ => rfl) (fun zu5 zk5 => ?_)
            refine j_top (oN r) rfl ?_
            have ze : (sp_longest (nI k) S) = (oN r, stF S (oF r (sF S))) := by unfold sp_longest; rw [isP_eq hI, if_pos zc1, show pN (nI k) = k from hkc, if_pos hin, he, show pN (nI kn) = kn from hckn, fr_end hR]; exact orB_eq _ _
            exact fin (zl, (sN S)) _ _ _ _ dX6_longest_112 rfl (by rw [ze] <;> rfl) (by rw [ze] <;> rfl) trivial
          | succ d ih60 =>
            intro x r zl hx hN hR
            subst hx
            refine j_iload 60 cx 0 dX6_longest_60 rfl ?_
            refine j_if_le_F 62 cx 107 dX6_longest_62 (by decide) (nI_nle (by omega) (by omega)) ?_
            refine j_iload_n 65 cx 1 dX6_longest_65 rfl ?_
            refine j_if_ge 66 cx 107 dX6_longest_66 (by decide) (fun zc4 => ?_) (fun zc4 => ?_)
            · skip
              refine j_aload_n 107 cx 4 dX6_longest_107 rfl ?_
              refine j_iload_n 108 cx 1 dX6_longest_108 rfl ?_
              refine j_callV_i 109 cx 1 [0, 2] [.int r] (fun _ => wMO o am (sP S) zl (nI (sL S)) tk be an va bd ++ ([((am 0), .inl (gI G, 51, .inl (mm (sN S))))] ++ ([((am 3), .inl (gI G, 7, .inl (oF r (sF S))))] ++ [((am 2), .inl (gI G, 51, .inl (mm (sN S))))]))) (c_X6_orNone (kl K) G o am (sP S) zl (nI (sL S)) tk be an va bd (sF S) r) gX6_longest_X6_orNone rfl rfl rfl ⟨rfl, by decide, by decide, rfl⟩ ⟨Nat.le_of_ble_eq_true rfl, Nat.le_of_ble_eq_true rfl⟩ ⟨Nat.zero_le _, Nat.zero_le _⟩ rfl (by decide) (ci := 5) 0 rfl rfl rfl rfl rfl (Nat.le_of_ble_eq_true rfl) dX6_longest_109 (fun _ => rfl) (fun zu6 zk6 => ?_)
              refine j_top (oN r) rfl ?_
              have ze : (sp_longest (nI k) S) = (oN r, stF S (oF r (sF S))) := by unfold sp_longest; rw [isP_eq hI, if_pos zc1, show pN (nI k) = k from hkc, if_pos hin, he, show pN (nI kn) = kn from hckn, fr_got hR zc4]; exact orB_eq _ _
              exact fin (zl, (sN S)) _ _ _ _ dX6_longest_112 rfl (by rw [ze] <;> rfl) (by rw [ze] <;> rfl) trivial
            · skip
              refine j_aload_n 69 cx 4 dX6_longest_69 rfl ?_
              refine j_iload_n 70 cx 3 dX6_longest_70 rfl ?_
              refine j_iconst 71 cx 1 dX6_longest_71 (by decide) ?_
              refine j_iload 72 cx 0 dX6_longest_72 rfl ?_
              refine j_callV_v 74 cx 3 [0, 1] [.int (nI k), .int 1, .int (nI (d + 1))] (fun _ => wMO o am (sP S) zl (nI (sL S)) tk be an va bd ++ ([((am 0), .inl (gI G, 51, .inl (mm (up2 (sN S) 3 k (nI (d + 1))))))] ++ ([((am 3), .inl (gI G, 7, .inl (sF S)))] ++ [((am 2), .inl (gI G, 51, .inl (mm (sN S))))]))) (c_X6_put (kl K) G o am (sP S) zl (nI (sL S)) tk be an va bd (sN S) k 1 (nI (d + 1)) (by omega) (by omega)) gX6_longest_X6_put rfl rfl rfl ⟨rfl, by decide, by decide, rfl⟩ ⟨Nat.le_of_ble_eq_true rfl, Nat.le_of_ble_eq_true rfl⟩ ⟨Nat.zero_le _, Nat.zero_le _⟩ rfl (by decide) (ci := 5) 0 rfl rfl rfl rfl rfl (Nat.le_of_ble_eq_true rfl) dX6_longest_74 (fun _ => rfl) (fun zu7 zk7 => ?_)
              refine j_aload_n 77 cx 4 dX6_longest_77 rfl ?_
              refine j_iload_n 78 cx 2 dX6_longest_78 rfl ?_
              refine j_callV_v 79 cx 1 [0, 1] [.int (nI kn)] (fun zl1 => wMO o am (sP S) zl1 (nI (sL S)) tk be an va bd ++ ([((am 0), .inl (gI G, 51, .inl (mm (daysF (up2 (sN S) 3 k (nI (d + 1))) kn))))] ++ ([((am 3), .inl (gI G, 7, .inl (sF S)))] ++ [((am 2), .inl (gI G, 51, .inl (mm (sN S))))]))) (c_X6_goesFor (kl K) G o am (sP S) zl (nI (sL S)) tk be an va bd (up2 (sN S) 3 k (nI (d + 1))) (inv_upx hI 3 k (nI (d + 1)) (by omega)) kn (by have h9 : dyN (up2 (sN S) 3 k (nI (d + 1))) ≤ 9999 := hD; omega)) gX6_longest_X6_goesFor rfl rfl rfl ⟨rfl, by decide, by decide, rfl⟩ ⟨Nat.le_of_ble_eq_true rfl, Nat.le_of_ble_eq_true rfl⟩ ⟨Nat.zero_le _, Nat.zero_le _⟩ rfl (by decide) (ci := 5) 0 rfl rfl rfl rfl rfl (Nat.le_of_ble_eq_true rfl) dX6_longest_79 (fun _ => rfl) (fun zl1 zk8 => ?_)
              refine j_aload_n 82 cx 4 dX6_longest_82 rfl ?_
              refine j_iload_n 83 cx 3 dX6_longest_83 rfl ?_
              refine j_callV_i 84 cx 1 [0, 1] [.int (nI k)] (fun _ => wMO o am (sP S) zl1 (nI (sL S)) tk be an va bd ++ ([((am 0), .inl (gI G, 51, .inl (mm (daysF (up2 (sN S) 3 k (nI (d + 1))) kn))))] ++ ([((am 3), .inl (gI G, 7, .inl (sF S)))] ++ [((am 2), .inl (gI G, 51, .inl (mm (sN S))))]))) (c_X6_isDone (kl K) G o am (sP S) zl1 (nI (sL S)) tk be an va bd (daysF (up2 (sN S) 3 k (nI (d + 1))) kn) k (by omega) ) gX6_longest_X6_isDone rfl rfl rfl ⟨rfl, by decide, by decide, rfl⟩ ⟨Nat.le_of_ble_eq_true rfl, Nat.le_of_ble_eq_true rfl⟩ ⟨Nat.zero_le _, Nat.zero_le _⟩ rfl (by decide) (ci := 5) 0 rfl rfl rfl rfl rfl (Nat.le_of_ble_eq_true rfl) dX6_longest_84 (fun _ => rfl) (fun zu9 zk9 => ?_)
              refine j_top (bI (done (daysF (up2 (sN S) 3 k (nI (d + 1))) kn) k)) rfl ?_
              refine j_ifB_eq 87 cx 95 dX6_longest_87 (by decide) (fun zc5 => ?_) (fun zc5 => ?_)
              · skip
                refine j_iconst 95 cx (-1) dX6_longest_95 (by decide) ?_
                refine j_istore_n 96 cx [(3, .int ((-1))), (4, .int (nI (d + 1))), (2, .int (nI kn)), (1, .int (nI k)), (0, .ref o)] dX6_longest_96 (by decide) rfl ?_
                refine j_aload_n 97 cx 4 dX6_longest_97 rfl ?_
                refine j_callV_v 98 cx 0 [0, 1, 3] [] (fun _ => wMO o am (sP S) zl1 (nI (sL S)) tk be an va bd ++ ([((am 0), .inl (gI G, 51, .inl (mm (sN S))))] ++ ([((am 3), .inl (gI G, 7, .inl (sF S)))] ++ [((am 2), .inl (gI G, 51, .inl (mm (sN S))))]))) (c_X6_putsBack (kl K) G o am (sP S) zl1 (nI (sL S)) tk be an va bd (daysF (up2 (sN S) 3 k (nI (d + 1))) kn) (sN S)) gX6_longest_X6_putsBack rfl rfl rfl ⟨rfl, by decide, by decide, rfl⟩ ⟨Nat.le_of_ble_eq_true rfl, Nat.le_of_ble_eq_true rfl⟩ ⟨Nat.zero_le _, Nat.zero_le _⟩ rfl (by decide) (ci := 5) 0 rfl rfl rfl rfl rfl (Nat.le_of_ble_eq_true rfl) dX6_longest_98 (fun _ => rfl) (fun zu10 zk10 => ?_)
                refine j_iinc 101 cx [(4, .int (nI d)), (3, .int ((-1))), (2, .int (nI kn)), (1, .int (nI k)), (0, .ref o)] 1 (nI d) dX6_longest_101 rfl (iincm d) (by decide) rfl ?_
                refine j_goto 104 cx 60 dX6_longest_104 (by decide) ?_
                exact ih60 d (-1) zl1 rfl (by omega) (fr_no hR zc4 zc5)
              · skip
                refine j_iload 90 cx 0 dX6_longest_90 rfl ?_
                refine j_goto 92 cx 96 dX6_longest_92 (by decide) ?_
                refine j_istore_n 96 cx [(3, .int (nI (d + 1))), (4, .int (nI (d + 1))), (2, .int (nI kn)), (1, .int (nI k)), (0, .ref o)] dX6_longest_96 (by decide) rfl ?_
                refine j_aload_n 97 cx 4 dX6_longest_97 rfl ?_
                refine j_callV_v 98 cx 0 [0, 1, 3] [] (fun _ => wMO o am (sP S) zl1 (nI (sL S)) tk be an va bd ++ ([((am 0), .inl (gI G, 51, .inl (mm (sN S))))] ++ ([((am 3), .inl (gI G, 7, .inl (sF S)))] ++ [((am 2), .inl (gI G, 51, .inl (mm (sN S))))]))) (c_X6_putsBack (kl K) G o am (sP S) zl1 (nI (sL S)) tk be an va bd (daysF (up2 (sN S) 3 k (nI (d + 1))) kn) (sN S)) gX6_longest_X6_putsBack rfl rfl rfl ⟨rfl, by decide, by decide, rfl⟩ ⟨Nat.le_of_ble_eq_true rfl, Nat.le_of_ble_eq_true rfl⟩ ⟨Nat.zero_le _, Nat.zero_le _⟩ rfl (by decide) (ci := 5) 0 rfl rfl rfl rfl rfl (Nat.le_of_ble_eq_true rfl) dX6_longest_98 (fun _ => rfl) (fun zu11 zk11 => ?_)
                refine j_iinc 101 cx [(4, .int (nI d)), (3, .int (nI (d + 1))), (2, .int (nI kn)), (1, .int (nI k)), (0, .ref o)] 1 (nI d) dX6_longest_101 rfl (iincm d) (by decide) rfl ?_
                refine j_goto 104 cx 60 dX6_longest_104 (by decide) ?_
                exact ih60 d (nI (d + 1)) zl1 rfl (by omega) (fr_yes hR zc4 zc5 (by omega))
        refine j_lv [0, 1, 2, 4, 3] rfl ?_
        exact L60 99 99 (-1) la rfl (by omega) (fr_start _ _ _)
      · skip
        refine j_aload_n 43 cx 1 dX6_longest_43 rfl ?_
        refine j_ldc 44 cx (v := -1000000005) (List.mem_of_getElem? (i := 3) rfl) dX6_longest_44 ?_
        refine j_callV_i 46 cx 1 [0, 2] [.int (fcode 4)] (fun _ => wMO o am (sP S) la (nI (sL S)) tk be an va bd ++ ([((am 0), .inl (gI G, 51, .inl (mm (sN S))))] ++ ([((am 3), .inl (gI G, 7, .inl (upd (sF S) 4 ((sF S) 4 + 1))))] ++ [((am 2), .inl (gI G, 51, .inl (mm ω)))]))) (c_X6_finds (kl K) G o am (sP S) la (nI (sL S)) tk be an va bd (sF S) 4 (by decide)) gX6_longest_X6_finds rfl rfl rfl ⟨rfl, by decide, by decide, rfl⟩ ⟨Nat.le_of_ble_eq_true rfl, Nat.le_of_ble_eq_true rfl⟩ ⟨Nat.zero_le _, Nat.zero_le _⟩ rfl (by decide) (ci := 5) 0 rfl rfl rfl rfl rfl (Nat.le_of_ble_eq_true rfl) dX6_longest_46 (fun _ => rfl) (fun zu12 zk12 => ?_)
        refine j_top (fcode 4) rfl ?_
        have ze : (sp_longest (nI k) S) = bad S 4 := by unfold sp_longest; rw [isP_eq hI, if_pos zc1, show pN (nI k) = k from hkc, if_neg (fun h => zc3 (inI_t h).2)]
        exact fin (la, ω) _ _ _ _ dX6_longest_49 rfl (by rw [ze] <;> rfl) (by rw [ze] <;> rfl) trivial
  · skip
    refine j_aload_n 8 cx 0 dX6_longest_8 rfl ?_
    refine j_ldc 9 cx (v := -1000000001) (List.mem_of_getElem? (i := 1) rfl) dX6_longest_9 ?_
    refine j_callV_i 11 cx 1 [0, 2] [.int (fcode 0)] (fun _ => wMO o am (sP S) la (nI (sL S)) tk be an va bd ++ ([((am 0), .inl (gI G, 51, .inl (mm (sN S))))] ++ ([((am 3), .inl (gI G, 7, .inl (upd (sF S) 0 ((sF S) 0 + 1))))] ++ [((am 2), .inl (gI G, 51, .inl (mm ω)))]))) (c_X6_finds (kl K) G o am (sP S) la (nI (sL S)) tk be an va bd (sF S) 0 (by decide)) gX6_longest_X6_finds rfl rfl rfl ⟨rfl, by decide, by decide, rfl⟩ ⟨Nat.le_of_ble_eq_true rfl, Nat.le_of_ble_eq_true rfl⟩ ⟨Nat.zero_le _, Nat.zero_le _⟩ rfl (by decide) (ci := 5) 0 rfl rfl rfl rfl rfl (Nat.le_of_ble_eq_true rfl) dX6_longest_11 (fun _ => rfl) (fun zu13 zk13 => ?_)
    refine j_top (fcode 0) rfl ?_
    have ze : (sp_longest p S) = bad S 0 := by unfold sp_longest; simp [isP_eq hI, bI_t, bI_f, zc1]
    exact fin (la, ω) _ _ _ _ dX6_longest_14 rfl (by rw [ze] <;> rfl) (by rw [ze] <;> rfl) trivial
set_option maxRecDepth 100000 in
set_option maxHeartbeats 4000000 in
theorem c_X6_due (l : Launch) (G : pG) (o : Nat) (am : Nat → Nat) (S : St) (la tk be an va : Int32) (bd : Bool) (ω : Nu) (hI : Inv (sN S)) (hD : dyN (sN S) ≤ 9999) (p : Int32) : KI l G yX6_due wsX6_due ({ frames := 8, cells := 0, slots := 0, locals := 180 } : Room) [.ref o, .int p] (wMO o am (sP S) la (nI (sL S)) tk be an va bd ++ ([((am 0), .inl (gI G, 51, .inl (mm (sN S))))] ++ ([((am 3), .inl (gI G, 7, .inl (sF S)))] ++ [((am 2), .inl (gI G, 51, .inl (mm ω)))]))) (S := (Int32 × Nu)) (fun _ => True) (fun u => (sp_due p S).1) (fun u => wMO o am (sP S) (u.1) (nI (sL S)) tk be an va bd ++ ([((am 0), .inl (gI G, 51, .inl (mm (sN (sp_due p S).2))))] ++ ([((am 3), .inl (gI G, 7, .inl (sF (sp_due p S).2)))] ++ [((am 2), .inl (gI G, 51, .inl (mm u.2)))]))) := by
  refine ki_of [(0, .ref o), (1, .int p)] (own := RX6) (cc := cX6_due) (nL := 7) (by decide +kernel) rfl rfl (Nat.le_of_ble_eq_true rfl) rfl (fun _ => rfl) (fun K cx fin => ?_)
  refine j_aload_n 0 cx 0 dX6_due_0 rfl ?_
  refine j_iload_n 1 cx 1 dX6_due_1 rfl ?_
  refine j_callV_i 2 cx 1 [0, 1] [.int p] (fun _ => wMO o am (sP S) la (nI (sL S)) tk be an va bd ++ ([((am 0), .inl (gI G, 51, .inl (mm (sN S))))] ++ ([((am 3), .inl (gI G, 7, .inl (sF S)))] ++ [((am 2), .inl (gI G, 51, .inl (mm ω)))]))) (c_X6_isPart (kl K) G o am (sP S) la (nI (sL S)) tk be an va bd (sN S) p hI ) gX6_due_X6_isPart rfl rfl rfl ⟨rfl, by decide, by decide, rfl⟩ ⟨Nat.le_of_ble_eq_true rfl, Nat.le_of_ble_eq_true rfl⟩ ⟨Nat.zero_le _, Nat.zero_le _⟩ rfl (by decide) (ci := 5) 0 rfl rfl rfl rfl rfl (Nat.le_of_ble_eq_true rfl) dX6_due_2 (fun _ => rfl) (fun zu1 zk1 => ?_)
  refine j_top (bI (inI p 0 (nI (szN (sN S)) - 1))) rfl ?_
  refine j_ifB_ne 5 cx 15 dX6_due_5 (by decide) (fun zc1 => ?_) (fun zc1 => ?_)
  · skip
    obtain ⟨k, hk, rfl⟩ := in_n (by have := hI.sz8; omega) zc1
    have h8 := hI.sz8
    have hkc : (nI k).toNatClampNeg = k := nI_clamp (by omega)
    refine j_aload_n 15 cx 0 dX6_due_15 rfl ?_
    refine j_callV_v 16 cx 0 [0, 1, 3] [] (fun _ => wMO o am (sP S) la (nI (sL S)) tk be an va bd ++ ([((am 0), .inl (gI G, 51, .inl (mm (sN S))))] ++ ([((am 3), .inl (gI G, 7, .inl (sF S)))] ++ [((am 2), .inl (gI G, 51, .inl (mm (sN S))))]))) (c_X6_thinks (kl K) G o am (sP S) la (nI (sL S)) tk be an va bd (sN S) ω) gX6_due_X6_thinks rfl rfl rfl ⟨rfl, by decide, by decide, rfl⟩ ⟨Nat.le_of_ble_eq_true rfl, Nat.le_of_ble_eq_true rfl⟩ ⟨Nat.zero_le _, Nat.zero_le _⟩ rfl (by decide) (ci := 5) 0 rfl rfl rfl rfl rfl (Nat.le_of_ble_eq_true rfl) dX6_due_16 (fun _ => rfl) (fun zu2 zk2 => ?_)
    refine j_iconst 19 cx (-1) dX6_due_19 (by decide) ?_
    refine j_istore_n 20 cx [(2, .int ((-1))), (0, .ref o), (1, .int (nI k))] dX6_due_20 (by decide) rfl ?_
    refine j_sipush 21 cx 201 dX6_due_21 (by decide) ?_
    refine j_istore_n 24 cx [(3, .int 201), (2, .int ((-1))), (0, .ref o), (1, .int (nI k))] dX6_due_24 (by decide) rfl ?_
    refine j_aload_n 25 cx 2 dX6_due_25 rfl ?_
    refine j_get 26 cx 0 2 (T := TX6) (v := .ref ((am 2))) (fun _ h => List.mem_cons_of_mem _ (List.mem_append_right _ (h))) (List.mem_of_getElem? (i := 2) rfl) (ci := 5) rfl (by decide) rfl rfl rfl dX6_due_26 ?_
    refine j_iconst 29 cx 0 dX6_due_29 (by decide) ?_
    refine j_iald 30 cx 3 0 rfl rfl (by omega) (by decide) dX6_due_30 ?_
    refine j_top ((sN S) 0 0) rfl ?_
    refine j_top (nI (dyN (sN S))) hI.dy ?_
    refine j_istore 31 cx [(4, .int (nI (dyN (sN S)))), (3, .int 201), (2, .int ((-1))), (0, .ref o), (1, .int (nI k))] dX6_due_31 (by decide) rfl ?_
    have L33 : ∀ d : Nat, ∀ (j : Nat) (zl : Int32), (j + d = duN (dyN (sN S))) → JJ G K 0 0 (wMO o am (sP S) zl (nI (sL S)) tk be an va bd ++ ([((am 0), .inl (gI G, 51, .inl (mm (sN S))))] ++ ([((am 3), .inl (gI G, 7, .inl (sF S)))] ++ [((am 2), .inl (gI G, 51, .inl (mm (sN S))))]))) [(4, .int (nI (dyN (sN S) + j))), (3, .int (nI (bdu (dueT (sN S) k) (dyN (sN S)) j).1)), (2, .int ((bdu (dueT (sN S) k) (dyN (sN S)) j).2)), (1, .int (nI k)), (0, .ref o)] 33 [] := by
      intro d
      induction d with
      | zero =>
        intro j zl hj
        have h61 := du_le hD
        refine j_iload 33 cx 0 dX6_due_33 rfl ?_
        refine j_aload_n 35 cx 4 dX6_due_35 rfl ?_
        refine j_get 36 cx 0 2 (T := TX6) (v := .ref ((am 2))) (fun _ h => List.mem_cons_of_mem _ (List.mem_append_right _ (h))) (List.mem_of_getElem? (i := 2) rfl) (ci := 5) rfl (by decide) rfl rfl rfl dX6_due_36 ?_
        refine j_iconst 39 cx 0 dX6_due_39 (by decide) ?_
        refine j_iald 40 cx 3 0 rfl rfl (by omega) (by decide) dX6_due_40 ?_
        refine j_top ((sN S) 0 0) rfl ?_
        refine j_top (nI (dyN (sN S))) hI.dy ?_
        refine j_bipush 41 cx 60 dX6_due_41 (by decide) ?_
        refine j_iadd 43 cx dX6_due_43 ?_
        refine j_top (nI (dyN (sN S) + 60)) (nI_add (dyN (sN S)) 60) ?_
        refine j_icmp_gt 44 cx 121 dX6_due_44 (by decide) (fun zc2 => ?_) (fun zc2 => ?_)
        · skip
          refine j_aload_n 121 cx 4 dX6_due_121 rfl ?_
          refine j_iload_n 122 cx 2 dX6_due_122 rfl ?_
          refine j_callV_i 123 cx 1 [0, 2] [.int ((bdu (dueT (sN S) k) (dyN (sN S)) j).2)] (fun _ => wMO o am (sP S) zl (nI (sL S)) tk be an va bd ++ ([((am 0), .inl (gI G, 51, .inl (mm (sN S))))] ++ ([((am 3), .inl (gI G, 7, .inl (oF ((bdu (dueT (sN S) k) (dyN (sN S)) j).2) (sF S))))] ++ [((am 2), .inl (gI G, 51, .inl (mm (sN S))))]))) (c_X6_orNone (kl K) G o am (sP S) zl (nI (sL S)) tk be an va bd (sF S) ((bdu (dueT (sN S) k) (dyN (sN S)) j).2)) gX6_due_X6_orNone rfl rfl rfl ⟨rfl, by decide, by decide, rfl⟩ ⟨Nat.le_of_ble_eq_true rfl, Nat.le_of_ble_eq_true rfl⟩ ⟨Nat.zero_le _, Nat.zero_le _⟩ rfl (by decide) (ci := 5) 0 rfl rfl rfl rfl rfl (Nat.le_of_ble_eq_true rfl) dX6_due_123 (fun _ => rfl) (fun zu3 zk3 => ?_)
          refine j_top (oN ((bdu (dueT (sN S) k) (dyN (sN S)) j).2)) rfl ?_
          have ze : (sp_due (nI k) S) = (oN ((bdu (dueT (sN S) k) (dyN (sN S)) j).2), stF S (oF ((bdu (dueT (sN S) k) (dyN (sN S)) j).2) (sF S))) := by unfold sp_due; rw [isP_eq hI, if_pos zc1, show pN (nI k) = k from hkc, show duN (dyN (sN S)) = j from by omega]; exact orB_eq _ _
          exact fin (zl, (sN S)) _ _ _ _ dX6_due_126 rfl (by rw [ze] <;> rfl) (by rw [ze] <;> rfl) trivial
        · skip
          refine j_iload 47 cx 0 dX6_due_47 rfl ?_
          refine j_sipush 49 cx 9999 dX6_due_49 (by decide) ?_
          refine j_icmp_gt_T 52 cx 121 dX6_due_52 (by decide) (du_out (by omega) hD zc2) ?_
          refine j_aload_n 121 cx 4 dX6_due_121 rfl ?_
          refine j_iload_n 122 cx 2 dX6_due_122 rfl ?_
          refine j_callV_i 123 cx 1 [0, 2] [.int ((bdu (dueT (sN S) k) (dyN (sN S)) j).2)] (fun _ => wMO o am (sP S) zl (nI (sL S)) tk be an va bd ++ ([((am 0), .inl (gI G, 51, .inl (mm (sN S))))] ++ ([((am 3), .inl (gI G, 7, .inl (oF ((bdu (dueT (sN S) k) (dyN (sN S)) j).2) (sF S))))] ++ [((am 2), .inl (gI G, 51, .inl (mm (sN S))))]))) (c_X6_orNone (kl K) G o am (sP S) zl (nI (sL S)) tk be an va bd (sF S) ((bdu (dueT (sN S) k) (dyN (sN S)) j).2)) gX6_due_X6_orNone rfl rfl rfl ⟨rfl, by decide, by decide, rfl⟩ ⟨Nat.le_of_ble_eq_true rfl, Nat.le_of_ble_eq_true rfl⟩ ⟨Nat.zero_le _, Nat.zero_le _⟩ rfl (by decide) (ci := 5) 0 rfl rfl rfl rfl rfl (Nat.le_of_ble_eq_true rfl) dX6_due_123 (fun _ => rfl) (fun zu4 zk4 => ?_)
          refine j_top (oN ((bdu (dueT (sN S) k) (dyN (sN S)) j).2)) rfl ?_
          have ze : (sp_due (nI k) S) = (oN ((bdu (dueT (sN S) k) (dyN (sN S)) j).2), stF S (oF ((bdu (dueT (sN S) k) (dyN (sN S)) j).2) (sF S))) := by unfold sp_due; rw [isP_eq hI, if_pos zc1, show pN (nI k) = k from hkc, show duN (dyN (sN S)) = j from by omega]; exact orB_eq _ _
          exact fin (zl, (sN S)) _ _ _ _ dX6_due_126 rfl (by rw [ze] <;> rfl) (by rw [ze] <;> rfl) trivial
      | succ d ih33 =>
        intro j zl hj
        have h61 := du_le hD
        refine j_iload 33 cx 0 dX6_due_33 rfl ?_
        refine j_aload_n 35 cx 4 dX6_due_35 rfl ?_
        refine j_get 36 cx 0 2 (T := TX6) (v := .ref ((am 2))) (fun _ h => List.mem_cons_of_mem _ (List.mem_append_right _ (h))) (List.mem_of_getElem? (i := 2) rfl) (ci := 5) rfl (by decide) rfl rfl rfl dX6_due_36 ?_
        refine j_iconst 39 cx 0 dX6_due_39 (by decide) ?_
        refine j_iald 40 cx 3 0 rfl rfl (by omega) (by decide) dX6_due_40 ?_
        refine j_top ((sN S) 0 0) rfl ?_
        refine j_top (nI (dyN (sN S))) hI.dy ?_
        refine j_bipush 41 cx 60 dX6_due_41 (by decide) ?_
        refine j_iadd 43 cx dX6_due_43 ?_
        refine j_top (nI (dyN (sN S) + 60)) (nI_add (dyN (sN S)) 60) ?_
        refine j_icmp_gt_F 44 cx 121 dX6_due_44 (by decide) (nI_nlt (by omega) (by omega)) ?_
        refine j_iload 47 cx 0 dX6_due_47 rfl ?_
        refine j_sipush 49 cx 9999 dX6_due_49 (by decide) ?_
        refine j_icmp_gt_F 52 cx 121 dX6_due_52 (by decide) (nI_nlt (a := 9999) (by omega) (by omega)) ?_
        refine j_aload_n 55 cx 4 dX6_due_55 rfl ?_
        refine j_iload_n 56 cx 3 dX6_due_56 rfl ?_
        refine j_iconst 57 cx 3 dX6_due_57 (by decide) ?_
        refine j_iload 58 cx 0 dX6_due_58 rfl ?_
        refine j_callV_v 60 cx 3 [0, 1] [.int (nI k), .int 3, .int (nI (dyN (sN S) + j))] (fun _ => wMO o am (sP S) zl (nI (sL S)) tk be an va bd ++ ([((am 0), .inl (gI G, 51, .inl (mm (up2 (sN S) 5 k (nI (dyN (sN S) + j))))))] ++ ([((am 3), .inl (gI G, 7, .inl (sF S)))] ++ [((am 2), .inl (gI G, 51, .inl (mm (sN S))))]))) (c_X6_put (kl K) G o am (sP S) zl (nI (sL S)) tk be an va bd (sN S) k 3 (nI (dyN (sN S) + j)) (by omega) (by omega)) gX6_due_X6_put rfl rfl rfl ⟨rfl, by decide, by decide, rfl⟩ ⟨Nat.le_of_ble_eq_true rfl, Nat.le_of_ble_eq_true rfl⟩ ⟨Nat.zero_le _, Nat.zero_le _⟩ rfl (by decide) (ci := 5) 0 rfl rfl rfl rfl rfl (Nat.le_of_ble_eq_true rfl) dX6_due_60 (fun _ => rfl) (fun zu5 zk5 => ?_)
        refine j_aload_n 63 cx 4 dX6_due_63 rfl ?_
        refine j_iload_n 64 cx 3 dX6_due_64 rfl ?_
        refine j_sipush 65 cx 200 dX6_due_65 (by decide) ?_
        refine j_callV_i 68 cx 2 [0, 1, 3] [.int (nI k), .int 200] (fun zl1 => wMO o am (sP S) zl1 (nI (sL S)) tk be an va bd ++ ([((am 0), .inl (gI G, 51, .inl (mm (sN S))))] ++ ([((am 3), .inl (gI G, 7, .inl (sF S)))] ++ [((am 2), .inl (gI G, 51, .inl (mm (sN S))))]))) (c_X6_doneIn (kl K) G o am (sP S) zl (nI (sL S)) tk be an va bd (up2 (sN S) 5 k (nI (dyN (sN S) + j))) (sN S) (inv_upx hI 5 k (nI (dyN (sN S) + j)) (by omega)) k (by omega) 200 (by omega) (by have h9 : dyN (up2 (sN S) 5 k (nI (dyN (sN S) + j))) ≤ 9999 := hD; omega)) gX6_due_X6_doneIn rfl rfl rfl ⟨rfl, by decide, by decide, rfl⟩ ⟨Nat.le_of_ble_eq_true rfl, Nat.le_of_ble_eq_true rfl⟩ ⟨Nat.zero_le _, Nat.zero_le _⟩ rfl (by decide) (ci := 5) 0 rfl rfl rfl rfl rfl (Nat.le_of_ble_eq_true rfl) dX6_due_68 (fun _ => rfl) (fun zl1 zk6 => ?_)
        refine j_top (tM 200 (till (gDone k) 200 (up2 (sN S) 5 k (nI (dyN (sN S) + j))))) rfl ?_
        refine j_istore 71 cx [(5, .int (tM 200 (till (gDone k) 200 (up2 (sN S) 5 k (nI (dyN (sN S) + j)))))), (4, .int (nI (dyN (sN S) + j))), (3, .int (nI (bdu (dueT (sN S) k) (dyN (sN S)) j).1)), (2, .int ((bdu (dueT (sN S) k) (dyN (sN S)) j).2)), (1, .int (nI k)), (0, .ref o)] dX6_due_71 (by decide) rfl ?_
        refine j_iload 73 cx 0 dX6_due_73 rfl ?_
        refine j_if_lt 75 cx 88 dX6_due_75 (by decide) (fun zc3 => ?_) (fun zc3 => ?_)
        · skip
          refine j_iconst 88 cx 0 dX6_due_88 (by decide) ?_
          refine j_istore 89 cx [(6, .int 0), (5, .int (tM 200 (till (gDone k) 200 (up2 (sN S) 5 k (nI (dyN (sN S) + j)))))), (4, .int (nI (dyN (sN S) + j))), (3, .int (nI (bdu (dueT (sN S) k) (dyN (sN S)) j).1)), (2, .int ((bdu (dueT (sN S) k) (dyN (sN S)) j).2)), (1, .int (nI k)), (0, .ref o)] dX6_due_89 (by decide) rfl ?_
          refine j_iload 91 cx 0 dX6_due_91 rfl ?_
          refine j_if_eq_T 93 cx 101 dX6_due_93 (by decide) (by decide) ?_
          refine j_iload_n 101 cx 4 dX6_due_101 rfl ?_
          refine j_istore_n 102 cx [(2, .int ((bdu (dueT (sN S) k) (dyN (sN S)) j).2)), (6, .int 0), (5, .int (tM 200 (till (gDone k) 200 (up2 (sN S) 5 k (nI (dyN (sN S) + j)))))), (4, .int (nI (dyN (sN S) + j))), (3, .int (nI (bdu (dueT (sN S) k) (dyN (sN S)) j).1)), (1, .int (nI k)), (0, .ref o)] dX6_due_102 (by decide) rfl ?_
          refine j_iload 103 cx 1 dX6_due_103 rfl ?_
          refine j_if_eq_T 105 cx 113 dX6_due_105 (by decide) (by decide) ?_
          refine j_iload_n 113 cx 4 dX6_due_113 rfl ?_
          refine j_istore_n 114 cx [(3, .int (nI (bdu (dueT (sN S) k) (dyN (sN S)) j).1)), (2, .int ((bdu (dueT (sN S) k) (dyN (sN S)) j).2)), (6, .int 0), (5, .int (tM 200 (till (gDone k) 200 (up2 (sN S) 5 k (nI (dyN (sN S) + j)))))), (4, .int (nI (dyN (sN S) + j))), (1, .int (nI k)), (0, .ref o)] dX6_due_114 (by decide) rfl ?_
          refine j_iinc 115 cx [(4, .int (nI ((dyN (sN S) + j) + 1))), (3, .int (nI (bdu (dueT (sN S) k) (dyN (sN S)) j).1)), (2, .int ((bdu (dueT (sN S) k) (dyN (sN S)) j).2)), (6, .int 0), (5, .int (tM 200 (till (gDone k) 200 (up2 (sN S) 5 k (nI (dyN (sN S) + j)))))), (1, .int (nI k)), (0, .ref o)] 4 (nI ((dyN (sN S) + j) + 1)) dX6_due_115 rfl (iinc1 (dyN (sN S) + j)) (by decide) rfl ?_
          refine j_goto 118 cx 33 dX6_due_118 (by decide) ?_
          refine j_lv [0, 1, 2, 5, 6] rfl ?_
          have h9 := ih33 (j + 1) zl1 (by omega)
          rw [show bdu (dueT (sN S) k) (dyN (sN S)) (j + 1) = (bdu (dueT (sN S) k) (dyN (sN S)) j) from bdu_nM zc3] at h9
          exact h9
        · skip
          refine j_iload 78 cx 0 dX6_due_78 rfl ?_
          refine j_iload_n 80 cx 2 dX6_due_80 rfl ?_
          refine j_icmp_gt 81 cx 88 dX6_due_81 (by decide) (fun zc4 => ?_) (fun zc4 => ?_)
          · skip
            refine j_iconst 88 cx 0 dX6_due_88 (by decide) ?_
            refine j_istore 89 cx [(6, .int 0), (5, .int (tM 200 (till (gDone k) 200 (up2 (sN S) 5 k (nI (dyN (sN S) + j)))))), (4, .int (nI (dyN (sN S) + j))), (3, .int (nI (bdu (dueT (sN S) k) (dyN (sN S)) j).1)), (2, .int ((bdu (dueT (sN S) k) (dyN (sN S)) j).2)), (1, .int (nI k)), (0, .ref o)] dX6_due_89 (by decide) rfl ?_
            refine j_iload 91 cx 0 dX6_due_91 rfl ?_
            refine j_if_eq_T 93 cx 101 dX6_due_93 (by decide) (by decide) ?_
            refine j_iload_n 101 cx 4 dX6_due_101 rfl ?_
            refine j_istore_n 102 cx [(2, .int ((bdu (dueT (sN S) k) (dyN (sN S)) j).2)), (6, .int 0), (5, .int (tM 200 (till (gDone k) 200 (up2 (sN S) 5 k (nI (dyN (sN S) + j)))))), (4, .int (nI (dyN (sN S) + j))), (3, .int (nI (bdu (dueT (sN S) k) (dyN (sN S)) j).1)), (1, .int (nI k)), (0, .ref o)] dX6_due_102 (by decide) rfl ?_
            refine j_iload 103 cx 1 dX6_due_103 rfl ?_
            refine j_if_eq_T 105 cx 113 dX6_due_105 (by decide) (by decide) ?_
            refine j_iload_n 113 cx 4 dX6_due_113 rfl ?_
            refine j_istore_n 114 cx [(3, .int (nI (bdu (dueT (sN S) k) (dyN (sN S)) j).1)), (2, .int ((bdu (dueT (sN S) k) (dyN (sN S)) j).2)), (6, .int 0), (5, .int (tM 200 (till (gDone k) 200 (up2 (sN S) 5 k (nI (dyN (sN S) + j)))))), (4, .int (nI (dyN (sN S) + j))), (1, .int (nI k)), (0, .ref o)] dX6_due_114 (by decide) rfl ?_
            refine j_iinc 115 cx [(4, .int (nI ((dyN (sN S) + j) + 1))), (3, .int (nI (bdu (dueT (sN S) k) (dyN (sN S)) j).1)), (2, .int ((bdu (dueT (sN S) k) (dyN (sN S)) j).2)), (6, .int 0), (5, .int (tM 200 (till (gDone k) 200 (up2 (sN S) 5 k (nI (dyN (sN S) + j)))))), (1, .int (nI k)), (0, .ref o)] 4 (nI ((dyN (sN S) + j) + 1)) dX6_due_115 rfl (iinc1 (dyN (sN S) + j)) (by decide) rfl ?_
            refine j_goto 118 cx 33 dX6_due_118 (by decide) ?_
            refine j_lv [0, 1, 2, 5, 6] rfl ?_
            have h9 := ih33 (j + 1) zl1 (by omega)
            rw [show bdu (dueT (sN S) k) (dyN (sN S)) (j + 1) = (bdu (dueT (sN S) k) (dyN (sN S)) j) from bdu_fM zc3 zc4] at h9
            exact h9
          · skip
            refine j_iconst 84 cx 1 dX6_due_84 (by decide) ?_
            refine j_goto 85 cx 89 dX6_due_85 (by decide) ?_
            refine j_istore 89 cx [(6, .int 1), (5, .int (tM 200 (till (gDone k) 200 (up2 (sN S) 5 k (nI (dyN (sN S) + j)))))), (4, .int (nI (dyN (sN S) + j))), (3, .int (nI (bdu (dueT (sN S) k) (dyN (sN S)) j).1)), (2, .int ((bdu (dueT (sN S) k) (dyN (sN S)) j).2)), (1, .int (nI k)), (0, .ref o)] dX6_due_89 (by decide) rfl ?_
            refine j_iload 91 cx 0 dX6_due_91 rfl ?_
            refine j_if_eq_F 93 cx 101 dX6_due_93 (by decide) (by decide) ?_
            refine j_iload 96 cx 2 dX6_due_96 rfl ?_
            refine j_goto 98 cx 102 dX6_due_98 (by decide) ?_
            refine j_istore_n 102 cx [(2, .int (nI (dyN (sN S) + j))), (6, .int 1), (5, .int (tM 200 (till (gDone k) 200 (up2 (sN S) 5 k (nI (dyN (sN S) + j)))))), (4, .int (nI (dyN (sN S) + j))), (3, .int (nI (bdu (dueT (sN S) k) (dyN (sN S)) j).1)), (1, .int (nI k)), (0, .ref o)] dX6_due_102 (by decide) rfl ?_
            refine j_iload 103 cx 1 dX6_due_103 rfl ?_
            refine j_if_eq_F 105 cx 113 dX6_due_105 (by decide) (by decide) ?_
            refine j_iload 108 cx 2 dX6_due_108 rfl ?_
            refine j_goto 110 cx 114 dX6_due_110 (by decide) ?_
            refine j_istore_n 114 cx [(3, .int (tM 200 (till (gDone k) 200 (up2 (sN S) 5 k (nI (dyN (sN S) + j)))))), (2, .int (nI (dyN (sN S) + j))), (6, .int 1), (5, .int (tM 200 (till (gDone k) 200 (up2 (sN S) 5 k (nI (dyN (sN S) + j)))))), (4, .int (nI (dyN (sN S) + j))), (1, .int (nI k)), (0, .ref o)] dX6_due_114 (by decide) rfl ?_
            refine j_iinc 115 cx [(4, .int (nI ((dyN (sN S) + j) + 1))), (3, .int (tM 200 (till (gDone k) 200 (up2 (sN S) 5 k (nI (dyN (sN S) + j)))))), (2, .int (nI (dyN (sN S) + j))), (6, .int 1), (5, .int (tM 200 (till (gDone k) 200 (up2 (sN S) 5 k (nI (dyN (sN S) + j)))))), (1, .int (nI k)), (0, .ref o)] 4 (nI ((dyN (sN S) + j) + 1)) dX6_due_115 rfl (iinc1 (dyN (sN S) + j)) (by decide) rfl ?_
            refine j_goto 118 cx 33 dX6_due_118 (by decide) ?_
            refine j_lv [0, 1, 2, 5, 6] rfl ?_
            have h9 := ih33 (j + 1) zl1 (by omega)
            rw [show bdu (dueT (sN S) k) (dyN (sN S)) (j + 1) = (dueT (sN S) k j, nI (dyN (sN S) + j)) from bdu_tM zc3 zc4] at h9
            rw [show tM 200 (till (gDone k) 200 (up2 (sN S) 5 k (nI (dyN (sN S) + j)))) = nI (dueT (sN S) k j) from tM_ok zc3]
            exact h9
    refine j_lv [0, 1, 2, 4, 3] rfl ?_
    exact L33 (duN (dyN (sN S))) 0 la (by omega)
  · skip
    refine j_aload_n 8 cx 0 dX6_due_8 rfl ?_
    refine j_ldc 9 cx (v := -1000000001) (List.mem_of_getElem? (i := 1) rfl) dX6_due_9 ?_
    refine j_callV_i 11 cx 1 [0, 2] [.int (fcode 0)] (fun _ => wMO o am (sP S) la (nI (sL S)) tk be an va bd ++ ([((am 0), .inl (gI G, 51, .inl (mm (sN S))))] ++ ([((am 3), .inl (gI G, 7, .inl (upd (sF S) 0 ((sF S) 0 + 1))))] ++ [((am 2), .inl (gI G, 51, .inl (mm ω)))]))) (c_X6_finds (kl K) G o am (sP S) la (nI (sL S)) tk be an va bd (sF S) 0 (by decide)) gX6_due_X6_finds rfl rfl rfl ⟨rfl, by decide, by decide, rfl⟩ ⟨Nat.le_of_ble_eq_true rfl, Nat.le_of_ble_eq_true rfl⟩ ⟨Nat.zero_le _, Nat.zero_le _⟩ rfl (by decide) (ci := 5) 0 rfl rfl rfl rfl rfl (Nat.le_of_ble_eq_true rfl) dX6_due_11 (fun _ => rfl) (fun zu7 zk7 => ?_)
    refine j_top (fcode 0) rfl ?_
    have ze : (sp_due p S) = bad S 0 := by unfold sp_due; simp [isP_eq hI, bI_t, bI_f, zc1]
    exact fin (la, ω) _ _ _ _ dX6_due_14 rfl (by rw [ze] <;> rfl) (by rw [ze] <;> rfl) trivial
