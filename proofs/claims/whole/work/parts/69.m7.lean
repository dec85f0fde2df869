set_option maxRecDepth 100000 in
set_option maxHeartbeats 4000000 in
theorem c_X6_isByte (l : Launch) (G : pG) (o : Nat) (am : Nat → Nat) (ik : Bool) (la tk be an va : Int32) (bd : Bool) (t : TF) (n : Nat) (k : Nat) (lo hi : Int32) (hk : k ≤ n) (hn : n ≤ 120) : KI l G yX6_isByte wsX6_isByte ({ frames := 1, cells := 0, slots := 0, locals := 23 } : Room) [.ref o, .int (nI k), .int lo, .int hi] (wMO o am ik la (nI n) tk be an va bd ++ [((am 4), .inl (gI G, 120, .inl t))]) (S := Unit) (fun _ => True) (fun u => bI (isb t n lo hi k)) (fun u => wMO o am ik la (nI n) tk be an va bd ++ [((am 4), .inl (gI G, 120, .inl t))]) := by
  refine ki_of [(0, .ref o), (1, .int (nI k)), (2, .int lo), (3, .int hi)] (own := RX6) (cc := cX6_isByte) (nL := 4) (by decide +kernel) rfl rfl (Nat.le_of_ble_eq_true rfl) rfl (fun _ => rfl) (fun K cx fin => ?_)
  refine j_iload_n 0 cx 1 dX6_isByte_0 rfl ?_
  refine j_aload_n 1 cx 0 dX6_isByte_1 rfl ?_
  refine j_get 2 cx 0 7 (T := TX6) (v := .int (nI n)) (fun _ h => List.mem_cons_of_mem _ (List.mem_append_right _ (h))) (List.mem_of_getElem? (i := 1) rfl) (ci := 5) rfl (by decide) rfl rfl rfl dX6_isByte_2 ?_
  refine j_icmp_ge 5 cx 27 dX6_isByte_5 (by decide) (fun zc1 => ?_) (fun zc1 => ?_)
  · skip
    refine j_iconst 27 cx 0 dX6_isByte_27 (by decide) ?_
    exact fin () _ _ _ _ dX6_isByte_28 rfl (by rw [isb_n (fun q => nI_ge q (by omega) zc1)]; rfl) rfl trivial
  · skip
    have hk9 : k < n := (nI_ltI (by omega) (by omega)).mp (Int32.not_le.mp zc1)
    refine j_aload_n 8 cx 0 dX6_isByte_8 rfl ?_
    refine j_get 9 cx 0 6 (T := TX6) (v := .ref ((am 4))) (fun _ h => List.mem_cons_of_mem _ (List.mem_append_right _ (h))) (List.mem_of_getElem? (i := 2) rfl) (ci := 5) rfl (by decide) rfl rfl rfl dX6_isByte_9 ?_
    refine j_iload_n 12 cx 1 dX6_isByte_12 rfl ?_
    refine j_iald 13 cx 1 k rfl rfl (by omega) (by decide) dX6_isByte_13 ?_
    refine j_i2l 14 cx dX6_isByte_14 ?_
    refine j_iload_n 15 cx 2 dX6_isByte_15 rfl ?_
    refine j_iload_n 16 cx 3 dX6_isByte_16 rfl ?_
    refine j_callS_i 17 cx 3 [] [.long ((t k).toInt64), .int lo, .int hi] (fun _ => wMO o am ik la (nI n) tk be an va bd ++ [((am 4), .inl (gI G, 120, .inl t))]) (c_X6_in (kl K) G ((t k).toInt64) lo hi) gX6_isByte_X6_in rfl rfl rfl ⟨by decide, by decide, rfl⟩ ⟨Nat.le_of_ble_eq_true rfl, Nat.le_of_ble_eq_true rfl⟩ ⟨Nat.zero_le _, Nat.zero_le _⟩ rfl (by decide) rfl rfl (Nat.le_of_ble_eq_true rfl) dX6_isByte_17 (fun _ => rfl) (fun zu1 zk1 => ?_)
    refine j_top (bI (inL ((t k).toInt64) lo hi)) rfl ?_
    refine j_top (bI (inI (t k) lo hi)) (congrArg bI (inL_i (t k) lo hi)) ?_
    refine j_ifB_eq 20 cx 27 dX6_isByte_20 (by decide) (fun zc2 => ?_) (fun zc2 => ?_)
    · skip
      refine j_iconst 27 cx 0 dX6_isByte_27 (by decide) ?_
      exact fin () _ _ _ _ dX6_isByte_28 rfl (by rw [isb_f zc2]; rfl) rfl trivial
    · skip
      refine j_iconst 23 cx 1 dX6_isByte_23 (by decide) ?_
      refine j_goto 24 cx 28 dX6_isByte_24 (by decide) ?_
      exact fin () _ _ _ _ dX6_isByte_28 rfl (by rw [isb_t hk9 zc2]; rfl) rfl trivial
set_option maxRecDepth 100000 in
set_option maxHeartbeats 4000000 in
theorem c_X6_isName (l : Launch) (G : pG) (o : Nat) (am : Nat → Nat) (ik : Bool) (la tk an va : Int32) (bd : Bool) (t : TF) (n : Nat) (w m b : Nat) (hw : w < 11) (hb : b + m ≤ n) (hn : n ≤ 120) (hL : ∀ j, j < m → inI (t (b + j)) 97 122 = true) : KI l G yX6_isName wsX6_isName ({ frames := 0, cells := 0, slots := 0, locals := 0 } : Room) [.ref o, .int (nI w), .int (nI m)] (wMO o am ik la (nI n) tk (nI b) an va bd ++ [((am 4), .inl (gI G, 120, .inl t))]) (S := Unit) (fun _ => True) (fun u => bI (wEq t b m w)) (fun u => wMO o am ik la (nI n) tk (nI b) an va bd ++ [((am 4), .inl (gI G, 120, .inl t))]) := by
  refine ki_of [(0, .ref o), (1, .int (nI w)), (2, .int (nI m))] (own := RX6) (cc := cX6_isName) (nL := 5) (by decide +kernel) rfl rfl (Nat.le_of_ble_eq_true rfl) rfl (fun _ => rfl) (fun K cx fin => ?_)
  refine j_iload_n 0 cx 2 dX6_isName_0 rfl ?_
  refine j_bipush 1 cx 8 dX6_isName_1 (by decide) ?_
  refine j_icmp_gt 3 cx 29 dX6_isName_3 (by decide) (fun zc1 => ?_) (fun zc1 => ?_)
  · skip
    have hg9 : ¬ m ≤ 8 := by have h9 := (nI_ltI (a := 8) (b := m) (by omega) (by omega)).mp zc1; omega
    refine j_iconst 29 cx 0 dX6_isName_29 (by decide) ?_
    refine j_top (bI (imN t b m w 0)) (im_0g hg9) ?_
    refine j_istore_n 30 cx [(3, .int (bI (imN t b m w 0))), (0, .ref o), (1, .int (nI w)), (2, .int (nI m))] dX6_isName_30 (by decide) rfl ?_
    refine j_iconst 31 cx 0 dX6_isName_31 (by decide) ?_
    refine j_istore 32 cx [(4, .int 0), (3, .int (bI (imN t b m w 0))), (0, .ref o), (1, .int (nI w)), (2, .int (nI m))] dX6_isName_32 (by decide) rfl ?_
    have L34 : ∀ d : Nat, ∀ (i : Nat), (i + d = m) → JJ G K 0 0 (wMO o am ik la (nI n) tk (nI b) an va bd ++ [((am 4), .inl (gI G, 120, .inl t))]) [(4, .int (nI i)), (3, .int (bI (imN t b m w i))), (2, .int (nI m)), (1, .int (nI w)), (0, .ref o)] 34 [] := by
      intro d
      induction d with
      | zero =>
        intro i hi
        refine j_iload 34 cx 0 dX6_isName_34 rfl ?_
        refine j_iload_n 36 cx 2 dX6_isName_36 rfl ?_
        refine j_icmp_ge_T 37 cx 82 dX6_isName_37 (by decide) (nI_le (by omega) (by omega)) ?_
        refine j_iload_n 82 cx 1 dX6_isName_82 rfl ?_
        exact fin () _ _ _ _ dX6_isName_83 (bI_nar _) (by rw [show i = m from by omega, im_eq hw hL]) rfl trivial
      | succ d ih34 =>
        intro i hi
        refine j_iload 34 cx 0 dX6_isName_34 rfl ?_
        refine j_iload_n 36 cx 2 dX6_isName_36 rfl ?_
        refine j_icmp_ge_F 37 cx 82 dX6_isName_37 (by decide) (nI_ge (by omega) (by omega)) ?_
        refine j_iload_n 40 cx 1 dX6_isName_40 rfl ?_
        refine j_ifB_eq 41 cx 82 dX6_isName_41 (by decide) (fun zc2 => ?_) (fun zc2 => ?_)
        · skip
          refine j_iload_n 82 cx 1 dX6_isName_82 rfl ?_
          exact fin () _ _ _ _ dX6_isName_83 (bI_nar _) (by rw [← im_eq hw hL, zc2, im_m zc2 (by omega)]) rfl trivial
        · skip
          have hm8 := im_8 zc2
          refine j_gets 44 cx cx.e.1 (List.mem_of_getElem? (i := 1) rfl) rfl dX6_isName_44 ?_
          refine j_bipush 47 cx 8 dX6_isName_47 (by decide) ?_
          refine j_iload_n 49 cx 3 dX6_isName_49 rfl ?_
          refine j_imul 50 cx dX6_isName_50 ?_
          refine j_top (nI (8 * w)) (pk_mul 8 w) ?_
          refine j_iload 51 cx 0 dX6_isName_51 rfl ?_
          refine j_iadd 53 cx dX6_isName_53 ?_
          refine j_top (nI (8 * w + i)) (nI_add (8 * w) i) ?_
          refine j_iaT 54 cx (8 * w + i) cx.e.2.1 rfl (by omega) (by decide) (v := .int (nmL.getD (8 * w + i) 0)) rfl dX6_isName_54 ?_
          refine j_aload_n 55 cx 4 dX6_isName_55 rfl ?_
          refine j_get 56 cx 0 6 (T := TX6) (v := .ref ((am 4))) (fun _ h => List.mem_cons_of_mem _ (List.mem_append_right _ (h))) (List.mem_of_getElem? (i := 2) rfl) (ci := 5) rfl (by decide) rfl rfl rfl dX6_isName_56 ?_
          refine j_aload_n 59 cx 4 dX6_isName_59 rfl ?_
          refine j_get 60 cx 0 9 (T := TX6) (v := .int (nI b)) (fun _ h => List.mem_cons_of_mem _ (List.mem_append_right _ (h))) (List.mem_of_getElem? (i := 3) rfl) (ci := 5) rfl (by decide) rfl rfl rfl dX6_isName_60 ?_
          refine j_iload 63 cx 0 dX6_isName_63 rfl ?_
          refine j_iadd 65 cx dX6_isName_65 ?_
          refine j_top (nI (b + i)) (nI_add b i) ?_
          refine j_iald 66 cx 1 (b + i) rfl rfl (by omega) (by decide) dX6_isName_66 ?_
          refine j_icmp_ne 67 cx 74 dX6_isName_67 (by decide) (fun zc3 => ?_) (fun zc3 => ?_)
          · skip
            refine j_iconst 74 cx 0 dX6_isName_74 (by decide) ?_
            refine j_top (bI (imN t b m w (i + 1))) (im_s0 zc3) ?_
            refine j_istore_n 75 cx [(3, .int (bI (imN t b m w (i + 1)))), (4, .int (nI i)), (2, .int (nI m)), (1, .int (nI w)), (0, .ref o)] dX6_isName_75 (by decide) rfl ?_
            refine j_iinc 76 cx [(4, .int (nI (i + 1))), (3, .int (bI (imN t b m w (i + 1)))), (2, .int (nI m)), (1, .int (nI w)), (0, .ref o)] 1 (nI (i + 1)) dX6_isName_76 rfl (iinc1 i) (by decide) rfl ?_
            refine j_goto 79 cx 34 dX6_isName_79 (by decide) ?_
            exact ih34 (i + 1) (by omega)
          · skip
            refine j_iconst 70 cx 1 dX6_isName_70 (by decide) ?_
            refine j_goto 71 cx 75 dX6_isName_71 (by decide) ?_
            refine j_top (bI (imN t b m w (i + 1))) (im_s1 zc2 zc3) ?_
            refine j_istore_n 75 cx [(3, .int (bI (imN t b m w (i + 1)))), (4, .int (nI i)), (2, .int (nI m)), (1, .int (nI w)), (0, .ref o)] dX6_isName_75 (by decide) rfl ?_
            refine j_iinc 76 cx [(4, .int (nI (i + 1))), (3, .int (bI (imN t b m w (i + 1)))), (2, .int (nI m)), (1, .int (nI w)), (0, .ref o)] 1 (nI (i + 1)) dX6_isName_76 rfl (iinc1 i) (by decide) rfl ?_
            refine j_goto 79 cx 34 dX6_isName_79 (by decide) ?_
            exact ih34 (i + 1) (by omega)
    refine j_lv [0, 1, 4, 3, 2] rfl ?_
    exact L34 m 0 (by omega)
  · skip
    have hg9 : m ≤ 8 := by have h9 := mt (nI_ltI (a := 8) (b := m) (by omega) (by omega)).mpr zc1; omega
    refine j_iload_n 6 cx 2 dX6_isName_6 rfl ?_
    refine j_bipush 7 cx 8 dX6_isName_7 (by decide) ?_
    refine j_icmp_eq 9 cx 25 dX6_isName_9 (by decide) (fun zc4 => ?_) (fun zc4 => ?_)
    · skip
      have he9 : m = 8 := (nI_eq (a := m) (b := 8) (by omega) (by omega)).mp zc4
      refine j_iconst 25 cx 1 dX6_isName_25 (by decide) ?_
      refine j_goto 26 cx 30 dX6_isName_26 (by decide) ?_
      refine j_top (bI (imN t b m w 0)) (im_1 hg9 (Or.inl he9)) ?_
      refine j_istore_n 30 cx [(3, .int (bI (imN t b m w 0))), (0, .ref o), (1, .int (nI w)), (2, .int (nI m))] dX6_isName_30 (by decide) rfl ?_
      refine j_iconst 31 cx 0 dX6_isName_31 (by decide) ?_
      refine j_istore 32 cx [(4, .int 0), (3, .int (bI (imN t b m w 0))), (0, .ref o), (1, .int (nI w)), (2, .int (nI m))] dX6_isName_32 (by decide) rfl ?_
      have L34 : ∀ d : Nat, ∀ (i : Nat), (i + d = m) → JJ G K 0 0 (wMO o am ik la (nI n) tk (nI b) an va bd ++ [((am 4), .inl (gI G, 120, .inl t))]) [(4, .int (nI i)), (3, .int (bI (imN t b m w i))), (2, .int (nI m)), (1, .int (nI w)), (0, .ref o)] 34 [] := by
        intro d
        induction d with
        | zero =>
          intro i hi
          refine j_iload 34 cx 0 dX6_isName_34 rfl ?_
          refine j_iload_n 36 cx 2 dX6_isName_36 rfl ?_
          refine j_icmp_ge_T 37 cx 82 dX6_isName_37 (by decide) (nI_le (by omega) (by omega)) ?_
          refine j_iload_n 82 cx 1 dX6_isName_82 rfl ?_
          exact fin () _ _ _ _ dX6_isName_83 (bI_nar _) (by rw [show i = m from by omega, im_eq hw hL]) rfl trivial
        | succ d ih34 =>
          intro i hi
          refine j_iload 34 cx 0 dX6_isName_34 rfl ?_
          refine j_iload_n 36 cx 2 dX6_isName_36 rfl ?_
          refine j_icmp_ge_F 37 cx 82 dX6_isName_37 (by decide) (nI_ge (by omega) (by omega)) ?_
          refine j_iload_n 40 cx 1 dX6_isName_40 rfl ?_
          refine j_ifB_eq 41 cx 82 dX6_isName_41 (by decide) (fun zc5 => ?_) (fun zc5 => ?_)
          · skip
            refine j_iload_n 82 cx 1 dX6_isName_82 rfl ?_
            exact fin () _ _ _ _ dX6_isName_83 (bI_nar _) (by rw [← im_eq hw hL, zc5, im_m zc5 (by omega)]) rfl trivial
          · skip
            have hm8 := im_8 zc5
            refine j_gets 44 cx cx.e.1 (List.mem_of_getElem? (i := 1) rfl) rfl dX6_isName_44 ?_
            refine j_bipush 47 cx 8 dX6_isName_47 (by decide) ?_
            refine j_iload_n 49 cx 3 dX6_isName_49 rfl ?_
            refine j_imul 50 cx dX6_isName_50 ?_
            refine j_top (nI (8 * w)) (pk_mul 8 w) ?_
            refine j_iload 51 cx 0 dX6_isName_51 rfl ?_
            refine j_iadd 53 cx dX6_isName_53 ?_
            refine j_top (nI (8 * w + i)) (nI_add (8 * w) i) ?_
            refine j_iaT 54 cx (8 * w + i) cx.e.2.1 rfl (by omega) (by decide) (v := .int (nmL.getD (8 * w + i) 0)) rfl dX6_isName_54 ?_
            refine j_aload_n 55 cx 4 dX6_isName_55 rfl ?_
            refine j_get 56 cx 0 6 (T := TX6) (v := .ref ((am 4))) (fun _ h => List.mem_cons_of_mem _ (List.mem_append_right _ (h))) (List.mem_of_getElem? (i := 2) rfl) (ci := 5) rfl (by decide) rfl rfl rfl dX6_isName_56 ?_
            refine j_aload_n 59 cx 4 dX6_isName_59 rfl ?_
            refine j_get 60 cx 0 9 (T := TX6) (v := .int (nI b)) (fun _ h => List.mem_cons_of_mem _ (List.mem_append_right _ (h))) (List.mem_of_getElem? (i := 3) rfl) (ci := 5) rfl (by decide) rfl rfl rfl dX6_isName_60 ?_
            refine j_iload 63 cx 0 dX6_isName_63 rfl ?_
            refine j_iadd 65 cx dX6_isName_65 ?_
            refine j_top (nI (b + i)) (nI_add b i) ?_
            refine j_iald 66 cx 1 (b + i) rfl rfl (by omega) (by decide) dX6_isName_66 ?_
            refine j_icmp_ne 67 cx 74 dX6_isName_67 (by decide) (fun zc6 => ?_) (fun zc6 => ?_)
            · skip
              refine j_iconst 74 cx 0 dX6_isName_74 (by decide) ?_
              refine j_top (bI (imN t b m w (i + 1))) (im_s0 zc6) ?_
              refine j_istore_n 75 cx [(3, .int (bI (imN t b m w (i + 1)))), (4, .int (nI i)), (2, .int (nI m)), (1, .int (nI w)), (0, .ref o)] dX6_isName_75 (by decide) rfl ?_
              refine j_iinc 76 cx [(4, .int (nI (i + 1))), (3, .int (bI (imN t b m w (i + 1)))), (2, .int (nI m)), (1, .int (nI w)), (0, .ref o)] 1 (nI (i + 1)) dX6_isName_76 rfl (iinc1 i) (by decide) rfl ?_
              refine j_goto 79 cx 34 dX6_isName_79 (by decide) ?_
              exact ih34 (i + 1) (by omega)
            · skip
              refine j_iconst 70 cx 1 dX6_isName_70 (by decide) ?_
              refine j_goto 71 cx 75 dX6_isName_71 (by decide) ?_
              refine j_top (bI (imN t b m w (i + 1))) (im_s1 zc5 zc6) ?_
              refine j_istore_n 75 cx [(3, .int (bI (imN t b m w (i + 1)))), (4, .int (nI i)), (2, .int (nI m)), (1, .int (nI w)), (0, .ref o)] dX6_isName_75 (by decide) rfl ?_
              refine j_iinc 76 cx [(4, .int (nI (i + 1))), (3, .int (bI (imN t b m w (i + 1)))), (2, .int (nI m)), (1, .int (nI w)), (0, .ref o)] 1 (nI (i + 1)) dX6_isName_76 rfl (iinc1 i) (by decide) rfl ?_
              refine j_goto 79 cx 34 dX6_isName_79 (by decide) ?_
              exact ih34 (i + 1) (by omega)
      refine j_lv [0, 1, 4, 3, 2] rfl ?_
      exact L34 m 0 (by omega)
    · skip
      have he9 : ¬ m = 8 := mt (nI_eq (a := m) (b := 8) (by omega) (by omega)).mpr zc4
      refine j_gets 12 cx cx.e.1 (List.mem_of_getElem? (i := 1) rfl) rfl dX6_isName_12 ?_
      refine j_bipush 15 cx 8 dX6_isName_15 (by decide) ?_
      refine j_iload_n 17 cx 1 dX6_isName_17 rfl ?_
      refine j_imul 18 cx dX6_isName_18 ?_
      refine j_top (nI (8 * w)) (pk_mul 8 w) ?_
      refine j_iload_n 19 cx 2 dX6_isName_19 rfl ?_
      refine j_iadd 20 cx dX6_isName_20 ?_
      refine j_top (nI (8 * w + m)) (nI_add (8 * w) m) ?_
      refine j_iaT 21 cx (8 * w + m) cx.e.2.1 rfl (by omega) (by decide) (v := .int (nmL.getD (8 * w + m) 0)) rfl dX6_isName_21 ?_
      refine j_if_ne 22 cx 29 dX6_isName_22 (by decide) (fun zc7 => ?_) (fun zc7 => ?_)
      · skip
        refine j_iconst 29 cx 0 dX6_isName_29 (by decide) ?_
        refine j_top (bI (imN t b m w 0)) (im_0n he9 zc7) ?_
        refine j_istore_n 30 cx [(3, .int (bI (imN t b m w 0))), (0, .ref o), (1, .int (nI w)), (2, .int (nI m))] dX6_isName_30 (by decide) rfl ?_
        refine j_iconst 31 cx 0 dX6_isName_31 (by decide) ?_
        refine j_istore 32 cx [(4, .int 0), (3, .int (bI (imN t b m w 0))), (0, .ref o), (1, .int (nI w)), (2, .int (nI m))] dX6_isName_32 (by decide) rfl ?_
        have L34 : ∀ d : Nat, ∀ (i : Nat), (i + d = m) → JJ G K 0 0 (wMO o am ik la (nI n) tk (nI b) an va bd ++ [((am 4), .inl (gI G, 120, .inl t))]) [(4, .int (nI i)), (3, .int (bI (imN t b m w i))), (2, .int (nI m)), (1, .int (nI w)), (0, .ref o)] 34 [] := by
          intro d
          induction d with
          | zero =>
            intro i hi
            refine j_iload 34 cx 0 dX6_isName_34 rfl ?_
            refine j_iload_n 36 cx 2 dX6_isName_36 rfl ?_
            refine j_icmp_ge_T 37 cx 82 dX6_isName_37 (by decide) (nI_le (by omega) (by omega)) ?_
            refine j_iload_n 82 cx 1 dX6_isName_82 rfl ?_
            exact fin () _ _ _ _ dX6_isName_83 (bI_nar _) (by rw [show i = m from by omega, im_eq hw hL]) rfl trivial
          | succ d ih34 =>
            intro i hi
            refine j_iload 34 cx 0 dX6_isName_34 rfl ?_
            refine j_iload_n 36 cx 2 dX6_isName_36 rfl ?_
            refine j_icmp_ge_F 37 cx 82 dX6_isName_37 (by decide) (nI_ge (by omega) (by omega)) ?_
            refine j_iload_n 40 cx 1 dX6_isName_40 rfl ?_
            refine j_ifB_eq 41 cx 82 dX6_isName_41 (by decide) (fun zc8 => ?_) (fun zc8 => ?_)
            · skip
              refine j_iload_n 82 cx 1 dX6_isName_82 rfl ?_
              exact fin () _ _ _ _ dX6_isName_83 (bI_nar _) (by rw [← im_eq hw hL, zc8, im_m zc8 (by omega)]) rfl trivial
            · skip
              have hm8 := im_8 zc8
              refine j_gets 44 cx cx.e.1 (List.mem_of_getElem? (i := 1) rfl) rfl dX6_isName_44 ?_
              refine j_bipush 47 cx 8 dX6_isName_47 (by decide) ?_
              refine j_iload_n 49 cx 3 dX6_isName_49 rfl ?_
              refine j_imul 50 cx dX6_isName_50 ?_
              refine j_top (nI (8 * w)) (pk_mul 8 w) ?_
              refine j_iload 51 cx 0 dX6_isName_51 rfl ?_
              refine j_iadd 53 cx dX6_isName_53 ?_
              refine j_top (nI (8 * w + i)) (nI_add (8 * w) i) ?_
              refine j_iaT 54 cx (8 * w + i) cx.e.2.1 rfl (by omega) (by decide) (v := .int (nmL.getD (8 * w + i) 0)) rfl dX6_isName_54 ?_
              refine j_aload_n 55 cx 4 dX6_isName_55 rfl ?_
              refine j_get 56 cx 0 6 (T := TX6) (v := .ref ((am 4))) (fun _ h => List.mem_cons_of_mem _ (List.mem_append_right _ (h))) (List.mem_of_getElem? (i := 2) rfl) (ci := 5) rfl (by decide) rfl rfl rfl dX6_isName_56 ?_
              refine j_aload_n 59 cx 4 dX6_isName_59 rfl ?_
              refine j_get 60 cx 0 9 (T := TX6) (v := .int (nI b)) (fun _ h => List.mem_cons_of_mem _ (List.mem_append_right _ (h))) (List.mem_of_getElem? (i := 3) rfl) (ci := 5) rfl (by decide) rfl rfl rfl dX6_isName_60 ?_
              refine j_iload 63 cx 0 dX6_isName_63 rfl ?_
              refine j_iadd 65 cx dX6_isName_65 ?_
              refine j_top (nI (b + i)) (nI_add b i) ?_
              refine j_iald 66 cx 1 (b + i) rfl rfl (by omega) (by decide) dX6_isName_66 ?_
              refine j_icmp_ne 67 cx 74 dX6_isName_67 (by decide) (fun zc9 => ?_) (fun zc9 => ?_)
              · skip
                refine j_iconst 74 cx 0 dX6_isName_74 (by decide) ?_
                refine j_top (bI (imN t b m w (i + 1))) (im_s0 zc9) ?_
                refine j_istore_n 75 cx [(3, .int (bI (imN t b m w (i + 1)))), (4, .int (nI i)), (2, .int (nI m)), (1, .int (nI w)), (0, .ref o)] dX6_isName_75 (by decide) rfl ?_
                refine j_iinc 76 cx [(4, .int (nI (i + 1))), (3, .int (bI (imN t b m w (i + 1)))), (2, .int (nI m)), (1, .int (nI w)), (0, .ref o)] 1 (nI (i + 1)) dX6_isName_76 rfl (iinc1 i) (by decide) rfl ?_
                refine j_goto 79 cx 34 dX6_isName_79 (by decide) ?_
                exact ih34 (i + 1) (by omega)
              · skip
                refine j_iconst 70 cx 1 dX6_isName_70 (by decide) ?_
                refine j_goto 71 cx 75 dX6_isName_71 (by decide) ?_
                refine j_top (bI (imN t b m w (i + 1))) (im_s1 zc8 zc9) ?_
                refine j_istore_n 75 cx [(3, .int (bI (imN t b m w (i + 1)))), (4, .int (nI i)), (2, .int (nI m)), (1, .int (nI w)), (0, .ref o)] dX6_isName_75 (by decide) rfl ?_
                refine j_iinc 76 cx [(4, .int (nI (i + 1))), (3, .int (bI (imN t b m w (i + 1)))), (2, .int (nI m)), (1, .int (nI w)), (0, .ref o)] 1 (nI (i + 1)) dX6_isName_76 rfl (iinc1 i) (by decide) rfl ?_
                refine j_goto 79 cx 34 dX6_isName_79 (by decide) ?_
                exact ih34 (i + 1) (by omega)
        refine j_lv [0, 1, 4, 3, 2] rfl ?_
        exact L34 m 0 (by omega)
      · skip
        refine j_iconst 25 cx 1 dX6_isName_25 (by decide) ?_
        refine j_goto 26 cx 30 dX6_isName_26 (by decide) ?_
        refine j_top (bI (imN t b m w 0)) (im_1 hg9 (Or.inr zc7)) ?_
        refine j_istore_n 30 cx [(3, .int (bI (imN t b m w 0))), (0, .ref o), (1, .int (nI w)), (2, .int (nI m))] dX6_isName_30 (by decide) rfl ?_
        refine j_iconst 31 cx 0 dX6_isName_31 (by decide) ?_
        refine j_istore 32 cx [(4, .int 0), (3, .int (bI (imN t b m w 0))), (0, .ref o), (1, .int (nI w)), (2, .int (nI m))] dX6_isName_32 (by decide) rfl ?_
        have L34 : ∀ d : Nat, ∀ (i : Nat), (i + d = m) → JJ G K 0 0 (wMO o am ik la (nI n) tk (nI b) an va bd ++ [((am 4), .inl (gI G, 120, .inl t))]) [(4, .int (nI i)), (3, .int (bI (imN t b m w i))), (2, .int (nI m)), (1, .int (nI w)), (0, .ref o)] 34 [] := by
          intro d
          induction d with
          | zero =>
            intro i hi
            refine j_iload 34 cx 0 dX6_isName_34 rfl ?_
            refine j_iload_n 36 cx 2 dX6_isName_36 rfl ?_
            refine j_icmp_ge_T 37 cx 82 dX6_isName_37 (by decide) (nI_le (by omega) (by omega)) ?_
            refine j_iload_n 82 cx 1 dX6_isName_82 rfl ?_
            exact fin () _ _ _ _ dX6_isName_83 (bI_nar _) (by rw [show i = m from by omega, im_eq hw hL]) rfl trivial
          | succ d ih34 =>
            intro i hi
            refine j_iload 34 cx 0 dX6_isName_34 rfl ?_
            refine j_iload_n 36 cx 2 dX6_isName_36 rfl ?_
            refine j_icmp_ge_F 37 cx 82 dX6_isName_37 (by decide) (nI_ge (by omega) (by omega)) ?_
            refine j_iload_n 40 cx 1 dX6_isName_40 rfl ?_
            refine j_ifB_eq 41 cx 82 dX6_isName_41 (by decide) (fun zc10 => ?_) (fun zc10 => ?_)
            · skip
              refine j_iload_n 82 cx 1 dX6_isName_82 rfl ?_
              exact fin () _ _ _ _ dX6_isName_83 (bI_nar _) (by rw [← im_eq hw hL, zc10, im_m zc10 (by omega)]) rfl trivial
            · skip
              have hm8 := im_8 zc10
              refine j_gets 44 cx cx.e.1 (List.mem_of_getElem? (i := 1) rfl) rfl dX6_isName_44 ?_
              refine j_bipush 47 cx 8 dX6_isName_47 (by decide) ?_
              refine j_iload_n 49 cx 3 dX6_isName_49 rfl ?_
              refine j_imul 50 cx dX6_isName_50 ?_
              refine j_top (nI (8 * w)) (pk_mul 8 w) ?_
              refine j_iload 51 cx 0 dX6_isName_51 rfl ?_
              refine j_iadd 53 cx dX6_isName_53 ?_
              refine j_top (nI (8 * w + i)) (nI_add (8 * w) i) ?_
              refine j_iaT 54 cx (8 * w + i) cx.e.2.1 rfl (by omega) (by decide) (v := .int (nmL.getD (8 * w + i) 0)) rfl dX6_isName_54 ?_
              refine j_aload_n 55 cx 4 dX6_isName_55 rfl ?_
              refine j_get 56 cx 0 6 (T := TX6) (v := .ref ((am 4))) (fun _ h => List.mem_cons_of_mem _ (List.mem_append_right _ (h))) (List.mem_of_getElem? (i := 2) rfl) (ci := 5) rfl (by decide) rfl rfl rfl dX6_isName_56 ?_
              refine j_aload_n 59 cx 4 dX6_isName_59 rfl ?_
              refine j_get 60 cx 0 9 (T := TX6) (v := .int (nI b)) (fun _ h => List.mem_cons_of_mem _ (List.mem_append_right _ (h))) (List.mem_of_getElem? (i := 3) rfl) (ci := 5) rfl (by decide) rfl rfl rfl dX6_isName_60 ?_
              refine j_iload 63 cx 0 dX6_isName_63 rfl ?_
              refine j_iadd 65 cx dX6_isName_65 ?_
              refine j_top (nI (b + i)) (nI_add b i) ?_
              refine j_iald 66 cx 1 (b + i) rfl rfl (by omega) (by decide) dX6_isName_66 ?_
              refine j_icmp_ne 67 cx 74 dX6_isName_67 (by decide) (fun zc11 => ?_) (fun zc11 => ?_)
              · skip
                refine j_iconst 74 cx 0 dX6_isName_74 (by decide) ?_
                refine j_top (bI (imN t b m w (i + 1))) (im_s0 zc11) ?_
                refine j_istore_n 75 cx [(3, .int (bI (imN t b m w (i + 1)))), (4, .int (nI i)), (2, .int (nI m)), (1, .int (nI w)), (0, .ref o)] dX6_isName_75 (by decide) rfl ?_
                refine j_iinc 76 cx [(4, .int (nI (i + 1))), (3, .int (bI (imN t b m w (i + 1)))), (2, .int (nI m)), (1, .int (nI w)), (0, .ref o)] 1 (nI (i + 1)) dX6_isName_76 rfl (iinc1 i) (by decide) rfl ?_
                refine j_goto 79 cx 34 dX6_isName_79 (by decide) ?_
                exact ih34 (i + 1) (by omega)
              · skip
                refine j_iconst 70 cx 1 dX6_isName_70 (by decide) ?_
                refine j_goto 71 cx 75 dX6_isName_71 (by decide) ?_
                refine j_top (bI (imN t b m w (i + 1))) (im_s1 zc10 zc11) ?_
                refine j_istore_n 75 cx [(3, .int (bI (imN t b m w (i + 1)))), (4, .int (nI i)), (2, .int (nI m)), (1, .int (nI w)), (0, .ref o)] dX6_isName_75 (by decide) rfl ?_
                refine j_iinc 76 cx [(4, .int (nI (i + 1))), (3, .int (bI (imN t b m w (i + 1)))), (2, .int (nI m)), (1, .int (nI w)), (0, .ref o)] 1 (nI (i + 1)) dX6_isName_76 rfl (iinc1 i) (by decide) rfl ?_
                refine j_goto 79 cx 34 dX6_isName_79 (by decide) ?_
                exact ih34 (i + 1) (by omega)
        refine j_lv [0, 1, 4, 3, 2] rfl ?_
        exact L34 m 0 (by omega)
set_option maxRecDepth 100000 in
set_option maxHeartbeats 4000000 in
theorem c_X6_wordHere (l : Launch) (G : pG) (o : Nat) (am : Nat → Nat) (ik : Bool) (la tk va : Int32) (bd : Bool) (t : TF) (n : Nat) (b e : Nat) (hbe : b ≤ e) (hen : e ≤ n) (hn : n ≤ 120) (hL : ∀ j, j < e - b → inI (t (b + j)) 97 122 = true) : KI l G yX6_wordHere wsX6_wordHere ({ frames := 1, cells := 0, slots := 0, locals := 24 } : Room) [.ref o] (wMO o am ik la (nI n) tk (nI b) (nI e) va bd ++ [((am 4), .inl (gI G, 120, .inl t))]) (S := Unit) (fun _ => True) (fun u => nI (mT (wI t b (e - b)))) (fun u => wMO o am ik la (nI n) tk (nI b) (nI e) va bd ++ [((am 4), .inl (gI G, 120, .inl t))]) := by
  refine ki_of [(0, .ref o)] (own := RX6) (cc := cX6_wordHere) (nL := 2) (by decide +kernel) rfl rfl (Nat.le_of_ble_eq_true rfl) rfl (fun _ => rfl) (fun K cx fin => ?_)
  refine j_iconst 0 cx 0 dX6_wordHere_0 (by decide) ?_
  refine j_istore_n 1 cx [(1, .int 0), (0, .ref o)] dX6_wordHere_1 (by decide) rfl ?_
  have L2 : ∀ d : Nat, ∀ (w : Nat), (w + d = 11) → (∀ v, v < w → wEq t b (e - b) v = false) → JJ G K 0 0 (wMO o am ik la (nI n) tk (nI b) (nI e) va bd ++ [((am 4), .inl (gI G, 120, .inl t))]) [(1, .int (nI w)), (0, .ref o)] 2 [] := by
    intro d
    induction d with
    | zero =>
      intro w hw hN
      refine j_iload_n 2 cx 0 dX6_wordHere_2 rfl ?_
      refine j_bipush 3 cx 11 dX6_wordHere_3 (by decide) ?_
      refine j_icmp_ge_T 5 cx 31 dX6_wordHere_5 (by decide) (nI_le (a := 11) (by omega) (by omega)) ?_
      refine j_iload_n 31 cx 0 dX6_wordHere_31 rfl ?_
      refine j_bipush 32 cx 11 dX6_wordHere_32 (by decide) ?_
      refine j_icmp_ge_T 34 cx 41 dX6_wordHere_34 (by decide) (nI_le (a := 11) (by omega) (by omega)) ?_
      refine j_bipush 41 cx 23 dX6_wordHere_41 (by decide) ?_
      exact fin () _ _ _ _ dX6_wordHere_43 rfl (by rw [wI_11 (w := w) (by omega) hN (Or.inl (by omega)), if_neg (by omega)]; rfl) rfl trivial
    | succ d ih2 =>
      intro w hw hN
      refine j_iload_n 2 cx 0 dX6_wordHere_2 rfl ?_
      refine j_bipush 3 cx 11 dX6_wordHere_3 (by decide) ?_
      refine j_icmp_ge_F 5 cx 31 dX6_wordHere_5 (by decide) (nI_ge (b := 11) (by omega) (by omega)) ?_
      refine j_aload_n 8 cx 1 dX6_wordHere_8 rfl ?_
      refine j_iload_n 9 cx 0 dX6_wordHere_9 rfl ?_
      refine j_aload_n 10 cx 1 dX6_wordHere_10 rfl ?_
      refine j_get 11 cx 0 10 (T := TX6) (v := .int (nI e)) (fun _ h => List.mem_cons_of_mem _ (List.mem_append_right _ (h))) (List.mem_of_getElem? (i := 1) rfl) (ci := 5) rfl (by decide) rfl rfl rfl dX6_wordHere_11 ?_
      refine j_aload_n 14 cx 1 dX6_wordHere_14 rfl ?_
      refine j_get 15 cx 0 9 (T := TX6) (v := .int (nI b)) (fun _ h => List.mem_cons_of_mem _ (List.mem_append_right _ (h))) (List.mem_of_getElem? (i := 2) rfl) (ci := 5) rfl (by decide) rfl rfl rfl dX6_wordHere_15 ?_
      refine j_isub 18 cx dX6_wordHere_18 ?_
      refine j_top (nI (e - b)) (pk_sub hbe) ?_
      refine j_callV_i 19 cx 2 [0, 1] [.int (nI w), .int (nI (e - b))] (fun _ => wMO o am ik la (nI n) tk (nI b) (nI e) va bd ++ [((am 4), .inl (gI G, 120, .inl t))]) (c_X6_isName (kl K) G o am ik la tk (nI e) va bd t n w (e - b) b (by omega) (by omega) hn hL) gX6_wordHere_X6_isName rfl rfl rfl ⟨rfl, by decide, by decide, rfl⟩ ⟨Nat.le_of_ble_eq_true rfl, Nat.le_of_ble_eq_true rfl⟩ ⟨Nat.zero_le _, Nat.zero_le _⟩ rfl (by decide) (ci := 5) 0 rfl rfl rfl rfl rfl (Nat.le_of_ble_eq_true rfl) dX6_wordHere_19 (fun _ => rfl) (fun zu1 zk1 => ?_)
      refine j_top (bI (wEq t b (e - b) w)) rfl ?_
      refine j_ifB_ne 22 cx 31 dX6_wordHere_22 (by decide) (fun zc1 => ?_) (fun zc1 => ?_)
      · skip
        refine j_iload_n 31 cx 0 dX6_wordHere_31 rfl ?_
        refine j_bipush 32 cx 11 dX6_wordHere_32 (by decide) ?_
        refine j_icmp_ge_F 34 cx 41 dX6_wordHere_34 (by decide) (nI_ge (b := 11) (by omega) (by omega)) ?_
        refine j_iload_n 37 cx 0 dX6_wordHere_37 rfl ?_
        refine j_goto 38 cx 43 dX6_wordHere_38 (by decide) ?_
        exact fin () _ _ _ _ dX6_wordHere_43 rfl (by rw [wI_11 (w := w) (by omega) hN (Or.inr zc1), if_pos (by omega)]; exact (mT_w rfl (by omega)).symm) rfl trivial
      · skip
        refine j_iinc 25 cx [(1, .int (nI (w + 1))), (0, .ref o)] 0 (nI (w + 1)) dX6_wordHere_25 rfl (iinc1 w) (by decide) rfl ?_
        refine j_goto 28 cx 2 dX6_wordHere_28 (by decide) ?_
        exact ih2 (w + 1) (by omega) (all_s hN zc1)
  exact L2 11 0 (by omega) (fun v hv => absurd hv (Nat.not_lt_zero v))
set_option maxRecDepth 100000 in
set_option maxHeartbeats 4000000 in
theorem c_X6_reads (l : Launch) (G : pG) (o : Nat) (am : Nat → Nat) (ik : Bool) (la tk be va : Int32) (bd : Bool) (t : TF) (n : Nat) (p : Nat) (hT : okT t) (hn : n ≤ 120) (hp : p ≤ n) : KV l G yX6_reads wsX6_reads ({ frames := 2, cells := 0, slots := 0, locals := 46 } : Room) [.ref o] (wMO o am ik la (nI n) tk be (nI p) va bd ++ [((am 4), .inl (gI G, 120, .inl t))]) (S := Unit) (fun _ => True) (fun u => wMO o am ik la (nI n) (nI (mT (rK (rdT t n p)))) (nI (rB (rdT t n p))) (nI (rA (rdT t n p))) (nI (rV (rdT t n p))) bd ++ [((am 4), .inl (gI G, 120, .inl t))]) := by
  refine kv_of [(0, .ref o)] (own := RX6) (cc := cX6_reads) (nL := 1) (by decide +kernel) rfl rfl (Nat.le_of_ble_eq_true rfl) rfl (fun _ => rfl) (fun K cx fin => ?_)
  have L0 : ∀ d : Nat, ∀ (s : Nat), (s + d = n) → (p ≤ s) → (sk t n 32 32 p = sk t n 32 32 s) → JJ G K 0 0 (wMO o am ik la (nI n) tk be (nI s) va bd ++ [((am 4), .inl (gI G, 120, .inl t))]) [(0, .ref o)] 0 [] := by
    intro d
    induction d with
    | zero =>
      intro s hs hs2 hS
      refine j_aload_n 0 cx 0 dX6_reads_0 rfl ?_
      refine j_aload_n 1 cx 0 dX6_reads_1 rfl ?_
      refine j_get 2 cx 0 10 (T := TX6) (v := .int (nI s)) (fun _ h => List.mem_cons_of_mem _ (List.mem_append_right _ (h))) (List.mem_of_getElem? (i := 1) rfl) (ci := 5) rfl (by decide) rfl rfl rfl dX6_reads_2 ?_
      refine j_bipush 5 cx 32 dX6_reads_5 (by decide) ?_
      refine j_bipush 7 cx 32 dX6_reads_7 (by decide) ?_
      refine j_callV_i 9 cx 3 [0, 1] [.int (nI s), .int 32, .int 32] (fun _ => wMO o am ik la (nI n) tk be (nI s) va bd ++ [((am 4), .inl (gI G, 120, .inl t))]) (c_X6_isByte (kl K) G o am ik la tk be (nI s) va bd t n s 32 32 (by omega) hn) gX6_reads_X6_isByte rfl rfl rfl ⟨rfl, by decide, by decide, rfl⟩ ⟨Nat.le_of_ble_eq_true rfl, Nat.le_of_ble_eq_true rfl⟩ ⟨Nat.zero_le _, Nat.zero_le _⟩ rfl (by decide) (ci := 5) 0 rfl rfl rfl rfl rfl (Nat.le_of_ble_eq_true rfl) dX6_reads_9 (fun _ => rfl) (fun zu1 zk1 => ?_)
      refine j_top (bI (isb t n 32 32 s)) rfl ?_
      refine j_if_eq_T 12 cx 28 dX6_reads_12 (by decide) (by rw [isb_n (by omega)]; rfl) ?_
      have hb : sk t n 32 32 p = s := hS.trans (sk_f (isb_n (by omega)))
      refine j_aload_n 28 cx 0 dX6_reads_28 rfl ?_
      refine j_aload_n 29 cx 0 dX6_reads_29 rfl ?_
      refine j_get 30 cx 0 10 (T := TX6) (v := .int (nI s)) (fun _ h => List.mem_cons_of_mem _ (List.mem_append_right _ (h))) (List.mem_of_getElem? (i := 1) rfl) (ci := 5) rfl (by decide) rfl rfl rfl dX6_reads_30 ?_
      refine j_put 33 cx 0 9 (wMO o am ik la (nI n) tk (nI s) (nI s) va bd ++ [((am 4), .inl (gI G, 120, .inl t))]) (T := TX6) (ty0 := tyX6) (fun _ h => List.mem_cons_of_mem _ (List.mem_append_right _ (h))) (List.mem_of_getElem? (i := 2) rfl) (ci := 5) rfl (by decide) rfl tyX6_ok nmX6 rfl rfl rfl rfl (Nat.le_of_ble_eq_true rfl) rfl dX6_reads_33 ?_
      refine j_aload_n 36 cx 0 dX6_reads_36 rfl ?_
      refine j_iconst 37 cx 0 dX6_reads_37 (by decide) ?_
      refine j_put 38 cx 0 11 (wMO o am ik la (nI n) tk (nI s) (nI s) 0 bd ++ [((am 4), .inl (gI G, 120, .inl t))]) (T := TX6) (ty0 := tyX6) (fun _ h => List.mem_cons_of_mem _ (List.mem_append_right _ (h))) (List.mem_of_getElem? (i := 3) rfl) (ci := 5) rfl (by decide) rfl tyX6_ok nmX6 rfl rfl rfl rfl (Nat.le_of_ble_eq_true rfl) rfl dX6_reads_38 ?_
      refine j_aload_n 41 cx 0 dX6_reads_41 rfl ?_
      refine j_get 42 cx 0 10 (T := TX6) (v := .int (nI s)) (fun _ h => List.mem_cons_of_mem _ (List.mem_append_right _ (h))) (List.mem_of_getElem? (i := 1) rfl) (ci := 5) rfl (by decide) rfl rfl rfl dX6_reads_42 ?_
      refine j_aload_n 45 cx 0 dX6_reads_45 rfl ?_
      refine j_get 46 cx 0 7 (T := TX6) (v := .int (nI n)) (fun _ h => List.mem_cons_of_mem _ (List.mem_append_right _ (h))) (List.mem_of_getElem? (i := 4) rfl) (ci := 5) rfl (by decide) rfl rfl rfl dX6_reads_46 ?_
      refine j_icmp_ne_F 49 cx 61 dX6_reads_49 (by decide) (congrArg nI (by omega)) ?_
      refine j_aload_n 52 cx 0 dX6_reads_52 rfl ?_
      refine j_bipush 53 cx 22 dX6_reads_53 (by decide) ?_
      refine j_put 55 cx 0 8 (wMO o am ik la (nI n) 22 (nI s) (nI s) 0 bd ++ [((am 4), .inl (gI G, 120, .inl t))]) (T := TX6) (ty0 := tyX6) (fun _ h => List.mem_cons_of_mem _ (List.mem_append_right _ (h))) (List.mem_of_getElem? (i := 5) rfl) (ci := 5) rfl (by decide) rfl tyX6_ok nmX6 rfl rfl rfl rfl (Nat.le_of_ble_eq_true rfl) rfl dX6_reads_55 ?_
      refine j_goto 58 cx 244 dX6_reads_58 (by decide) ?_
      have hr9 : rdT t n p = (22, s, s, 0) := rd_end hb (by omega)
      have hk9 : nI (mT (rK (rdT t n p))) = 22 := by rw [hr9] <;> rfl
      have hb9 : rB (rdT t n p) = s := by rw [hr9]
      have ha9 : rA (rdT t n p) = s := by rw [hr9]
      have hv9 : nI (rV (rdT t n p)) = 0 := by rw [hr9] <;> rfl
      exact fin () _ _ _ dX6_reads_244 (by rw [hk9, hb9, ha9, hv9] <;> rfl) trivial
    | succ d ih0 =>
      intro s hs hs2 hS
      refine j_aload_n 0 cx 0 dX6_reads_0 rfl ?_
      refine j_aload_n 1 cx 0 dX6_reads_1 rfl ?_
      refine j_get 2 cx 0 10 (T := TX6) (v := .int (nI s)) (fun _ h => List.mem_cons_of_mem _ (List.mem_append_right _ (h))) (List.mem_of_getElem? (i := 1) rfl) (ci := 5) rfl (by decide) rfl rfl rfl dX6_reads_2 ?_
      refine j_bipush 5 cx 32 dX6_reads_5 (by decide) ?_
      refine j_bipush 7 cx 32 dX6_reads_7 (by decide) ?_
      refine j_callV_i 9 cx 3 [0, 1] [.int (nI s), .int 32, .int 32] (fun _ => wMO o am ik la (nI n) tk be (nI s) va bd ++ [((am 4), .inl (gI G, 120, .inl t))]) (c_X6_isByte (kl K) G o am ik la tk be (nI s) va bd t n s 32 32 (by omega) hn) gX6_reads_X6_isByte rfl rfl rfl ⟨rfl, by decide, by decide, rfl⟩ ⟨Nat.le_of_ble_eq_true rfl, Nat.le_of_ble_eq_true rfl⟩ ⟨Nat.zero_le _, Nat.zero_le _⟩ rfl (by decide) (ci := 5) 0 rfl rfl rfl rfl rfl (Nat.le_of_ble_eq_true rfl) dX6_reads_9 (fun _ => rfl) (fun zu2 zk2 => ?_)
      refine j_top (bI (isb t n 32 32 s)) rfl ?_
      refine j_ifB_eq 12 cx 28 dX6_reads_12 (by decide) (fun zc1 => ?_) (fun zc1 => ?_)
      · skip
        have hb : sk t n 32 32 p = s := hS.trans (sk_f zc1)
        refine j_aload_n 28 cx 0 dX6_reads_28 rfl ?_
        refine j_aload_n 29 cx 0 dX6_reads_29 rfl ?_
        refine j_get 30 cx 0 10 (T := TX6) (v := .int (nI s)) (fun _ h => List.mem_cons_of_mem _ (List.mem_append_right _ (h))) (List.mem_of_getElem? (i := 1) rfl) (ci := 5) rfl (by decide) rfl rfl rfl dX6_reads_30 ?_
        refine j_put 33 cx 0 9 (wMO o am ik la (nI n) tk (nI s) (nI s) va bd ++ [((am 4), .inl (gI G, 120, .inl t))]) (T := TX6) (ty0 := tyX6) (fun _ h => List.mem_cons_of_mem _ (List.mem_append_right _ (h))) (List.mem_of_getElem? (i := 2) rfl) (ci := 5) rfl (by decide) rfl tyX6_ok nmX6 rfl rfl rfl rfl (Nat.le_of_ble_eq_true rfl) rfl dX6_reads_33 ?_
        refine j_aload_n 36 cx 0 dX6_reads_36 rfl ?_
        refine j_iconst 37 cx 0 dX6_reads_37 (by decide) ?_
        refine j_put 38 cx 0 11 (wMO o am ik la (nI n) tk (nI s) (nI s) 0 bd ++ [((am 4), .inl (gI G, 120, .inl t))]) (T := TX6) (ty0 := tyX6) (fun _ h => List.mem_cons_of_mem _ (List.mem_append_right _ (h))) (List.mem_of_getElem? (i := 3) rfl) (ci := 5) rfl (by decide) rfl tyX6_ok nmX6 rfl rfl rfl rfl (Nat.le_of_ble_eq_true rfl) rfl dX6_reads_38 ?_
        refine j_aload_n 41 cx 0 dX6_reads_41 rfl ?_
        refine j_get 42 cx 0 10 (T := TX6) (v := .int (nI s)) (fun _ h => List.mem_cons_of_mem _ (List.mem_append_right _ (h))) (List.mem_of_getElem? (i := 1) rfl) (ci := 5) rfl (by decide) rfl rfl rfl dX6_reads_42 ?_
        refine j_aload_n 45 cx 0 dX6_reads_45 rfl ?_
        refine j_get 46 cx 0 7 (T := TX6) (v := .int (nI n)) (fun _ h => List.mem_cons_of_mem _ (List.mem_append_right _ (h))) (List.mem_of_getElem? (i := 4) rfl) (ci := 5) rfl (by decide) rfl rfl rfl dX6_reads_46 ?_
        refine j_icmp_ne_T 49 cx 61 dX6_reads_49 (by decide) (mt (nI_eq (by omega) (by omega)).mp (by omega)) ?_
        refine j_aload_n 61 cx 0 dX6_reads_61 rfl ?_
        refine j_aload_n 62 cx 0 dX6_reads_62 rfl ?_
        refine j_get 63 cx 0 10 (T := TX6) (v := .int (nI s)) (fun _ h => List.mem_cons_of_mem _ (List.mem_append_right _ (h))) (List.mem_of_getElem? (i := 1) rfl) (ci := 5) rfl (by decide) rfl rfl rfl dX6_reads_63 ?_
        refine j_bipush 66 cx 97 dX6_reads_66 (by decide) ?_
        refine j_bipush 68 cx 122 dX6_reads_68 (by decide) ?_
        refine j_callV_i 70 cx 3 [0, 1] [.int (nI s), .int 97, .int 122] (fun _ => wMO o am ik la (nI n) tk (nI s) (nI s) 0 bd ++ [((am 4), .inl (gI G, 120, .inl t))]) (c_X6_isByte (kl K) G o am ik la tk (nI s) (nI s) 0 bd t n s 97 122 (by omega) hn) gX6_reads_X6_isByte rfl rfl rfl ⟨rfl, by decide, by decide, rfl⟩ ⟨Nat.le_of_ble_eq_true rfl, Nat.le_of_ble_eq_true rfl⟩ ⟨Nat.zero_le _, Nat.zero_le _⟩ rfl (by decide) (ci := 5) 0 rfl rfl rfl rfl rfl (Nat.le_of_ble_eq_true rfl) dX6_reads_70 (fun _ => rfl) (fun zu3 zk3 => ?_)
        refine j_top (bI (isb t n 97 122 s)) rfl ?_
        refine j_ifB_eq 73 cx 115 dX6_reads_73 (by decide) (fun zc2 => ?_) (fun zc2 => ?_)
        · skip
          refine j_aload_n 115 cx 0 dX6_reads_115 rfl ?_
          refine j_aload_n 116 cx 0 dX6_reads_116 rfl ?_
          refine j_get 117 cx 0 10 (T := TX6) (v := .int (nI s)) (fun _ h => List.mem_cons_of_mem _ (List.mem_append_right _ (h))) (List.mem_of_getElem? (i := 1) rfl) (ci := 5) rfl (by decide) rfl rfl rfl dX6_reads_117 ?_
          refine j_bipush 120 cx 48 dX6_reads_120 (by decide) ?_
          refine j_bipush 122 cx 57 dX6_reads_122 (by decide) ?_
          refine j_callV_i 124 cx 3 [0, 1] [.int (nI s), .int 48, .int 57] (fun _ => wMO o am ik la (nI n) tk (nI s) (nI s) 0 bd ++ [((am 4), .inl (gI G, 120, .inl t))]) (c_X6_isByte (kl K) G o am ik la tk (nI s) (nI s) 0 bd t n s 48 57 (by omega) hn) gX6_reads_X6_isByte rfl rfl rfl ⟨rfl, by decide, by decide, rfl⟩ ⟨Nat.le_of_ble_eq_true rfl, Nat.le_of_ble_eq_true rfl⟩ ⟨Nat.zero_le _, Nat.zero_le _⟩ rfl (by decide) (ci := 5) 0 rfl rfl rfl rfl rfl (Nat.le_of_ble_eq_true rfl) dX6_reads_124 (fun _ => rfl) (fun zu4 zk4 => ?_)
          refine j_top (bI (isb t n 48 57 s)) rfl ?_
          refine j_ifB_eq 127 cx 208 dX6_reads_127 (by decide) (fun zc3 => ?_) (fun zc3 => ?_)
          · skip
            refine j_aload_n 208 cx 0 dX6_reads_208 rfl ?_
            refine j_aload_n 209 cx 0 dX6_reads_209 rfl ?_
            refine j_aload_n 210 cx 0 dX6_reads_210 rfl ?_
            refine j_get 211 cx 0 10 (T := TX6) (v := .int (nI s)) (fun _ h => List.mem_cons_of_mem _ (List.mem_append_right _ (h))) (List.mem_of_getElem? (i := 1) rfl) (ci := 5) rfl (by decide) rfl rfl rfl dX6_reads_211 ?_
            refine j_bipush 214 cx 59 dX6_reads_214 (by decide) ?_
            refine j_bipush 216 cx 59 dX6_reads_216 (by decide) ?_
            refine j_callV_i 218 cx 3 [0, 1] [.int (nI s), .int 59, .int 59] (fun _ => wMO o am ik la (nI n) tk (nI s) (nI s) 0 bd ++ [((am 4), .inl (gI G, 120, .inl t))]) (c_X6_isByte (kl K) G o am ik la tk (nI s) (nI s) 0 bd t n s 59 59 (by omega) hn) gX6_reads_X6_isByte rfl rfl rfl ⟨rfl, by decide, by decide, rfl⟩ ⟨Nat.le_of_ble_eq_true rfl, Nat.le_of_ble_eq_true rfl⟩ ⟨Nat.zero_le _, Nat.zero_le _⟩ rfl (by decide) (ci := 5) 0 rfl rfl rfl rfl rfl (Nat.le_of_ble_eq_true rfl) dX6_reads_218 (fun _ => rfl) (fun zu5 zk5 => ?_)
            refine j_top (bI (isb t n 59 59 s)) rfl ?_
            refine j_ifB_eq 221 cx 229 dX6_reads_221 (by decide) (fun zc4 => ?_) (fun zc4 => ?_)
            · skip
              refine j_bipush 229 cx 23 dX6_reads_229 (by decide) ?_
              refine j_put 231 cx 0 8 (wMO o am ik la (nI n) 23 (nI s) (nI s) 0 bd ++ [((am 4), .inl (gI G, 120, .inl t))]) (T := TX6) (ty0 := tyX6) (fun _ h => List.mem_cons_of_mem _ (List.mem_append_right _ (h))) (List.mem_of_getElem? (i := 5) rfl) (ci := 5) rfl (by decide) rfl tyX6_ok nmX6 rfl rfl rfl rfl (Nat.le_of_ble_eq_true rfl) rfl dX6_reads_231 ?_
              refine j_aload_n 234 cx 0 dX6_reads_234 rfl ?_
              refine j_dup 235 cx dX6_reads_235 rfl ?_
              refine j_get 236 cx 0 10 (T := TX6) (v := .int (nI s)) (fun _ h => List.mem_cons_of_mem _ (List.mem_append_right _ (h))) (List.mem_of_getElem? (i := 1) rfl) (ci := 5) rfl (by decide) rfl rfl rfl dX6_reads_236 ?_
              refine j_iconst 239 cx 1 dX6_reads_239 (by decide) ?_
              refine j_iadd 240 cx dX6_reads_240 ?_
              refine j_top (nI (s + 1)) (nI_add s 1) ?_
              refine j_put 241 cx 0 10 (wMO o am ik la (nI n) 23 (nI s) (nI (s + 1)) 0 bd ++ [((am 4), .inl (gI G, 120, .inl t))]) (T := TX6) (ty0 := tyX6) (fun _ h => List.mem_cons_of_mem _ (List.mem_append_right _ (h))) (List.mem_of_getElem? (i := 1) rfl) (ci := 5) rfl (by decide) rfl tyX6_ok nmX6 rfl rfl rfl rfl (Nat.le_of_ble_eq_true rfl) rfl dX6_reads_241 ?_
              have hr9 : rdT t n p = (23, s, s + 1, 0) := rd_oth hb (by omega) (isb_0 (by omega) zc2) (isb_0 (by omega) zc3) (fun q => by have h9 := isb_0 (by omega) zc4; rw [in_one.mpr q] at h9; cases h9)
              have hk9 : nI (mT (rK (rdT t n p))) = 23 := by rw [hr9] <;> rfl
              have hb9 : rB (rdT t n p) = s := by rw [hr9]
              have ha9 : rA (rdT t n p) = s + 1 := by rw [hr9]
              have hv9 : nI (rV (rdT t n p)) = 0 := by rw [hr9] <;> rfl
              exact fin () _ _ _ dX6_reads_244 (by rw [hk9, hb9, ha9, hv9] <;> rfl) trivial
            · skip
              refine j_bipush 224 cx 21 dX6_reads_224 (by decide) ?_
              refine j_goto 226 cx 231 dX6_reads_226 (by decide) ?_
              refine j_put 231 cx 0 8 (wMO o am ik la (nI n) 21 (nI s) (nI s) 0 bd ++ [((am 4), .inl (gI G, 120, .inl t))]) (T := TX6) (ty0 := tyX6) (fun _ h => List.mem_cons_of_mem _ (List.mem_append_right _ (h))) (List.mem_of_getElem? (i := 5) rfl) (ci := 5) rfl (by decide) rfl tyX6_ok nmX6 rfl rfl rfl rfl (Nat.le_of_ble_eq_true rfl) rfl dX6_reads_231 ?_
              refine j_aload_n 234 cx 0 dX6_reads_234 rfl ?_
              refine j_dup 235 cx dX6_reads_235 rfl ?_
              refine j_get 236 cx 0 10 (T := TX6) (v := .int (nI s)) (fun _ h => List.mem_cons_of_mem _ (List.mem_append_right _ (h))) (List.mem_of_getElem? (i := 1) rfl) (ci := 5) rfl (by decide) rfl rfl rfl dX6_reads_236 ?_
              refine j_iconst 239 cx 1 dX6_reads_239 (by decide) ?_
              refine j_iadd 240 cx dX6_reads_240 ?_
              refine j_top (nI (s + 1)) (nI_add s 1) ?_
              refine j_put 241 cx 0 10 (wMO o am ik la (nI n) 21 (nI s) (nI (s + 1)) 0 bd ++ [((am 4), .inl (gI G, 120, .inl t))]) (T := TX6) (ty0 := tyX6) (fun _ h => List.mem_cons_of_mem _ (List.mem_append_right _ (h))) (List.mem_of_getElem? (i := 1) rfl) (ci := 5) rfl (by decide) rfl tyX6_ok nmX6 rfl rfl rfl rfl (Nat.le_of_ble_eq_true rfl) rfl dX6_reads_241 ?_
              have hr9 : rdT t n p = (21, s, s + 1, 0) := rd_semi hb (by omega) (isb_0 (by omega) zc2) (isb_0 (by omega) zc3) (in_one.mp (isb_1 zc4).2)
              have hk9 : nI (mT (rK (rdT t n p))) = 21 := by rw [hr9] <;> rfl
              have hb9 : rB (rdT t n p) = s := by rw [hr9]
              have ha9 : rA (rdT t n p) = s + 1 := by rw [hr9]
              have hv9 : nI (rV (rdT t n p)) = 0 := by rw [hr9] <;> rfl
              exact fin () _ _ _ dX6_reads_244 (by rw [hk9, hb9, ha9, hv9] <;> rfl) trivial
          · skip
            have L130 : ∀ d : Nat, ∀ (e v : Nat), (e + d = n) → (s ≤ e) → (sk t n 48 57 s = sk t n 48 57 e) → (nv t n 0 s = nv t n v e) → (v ≤ 99999) → JJ G K 0 0 (wMO o am ik la (nI n) tk (nI s) (nI e) (nI v) bd ++ [((am 4), .inl (gI G, 120, .inl t))]) [(0, .ref o)] 130 [] := by
              intro d
              induction d with
              | zero =>
                intro e v he he2 hE hV hv
                refine j_aload_n 130 cx 0 dX6_reads_130 rfl ?_
                refine j_aload_n 131 cx 0 dX6_reads_131 rfl ?_
                refine j_get 132 cx 0 10 (T := TX6) (v := .int (nI e)) (fun _ h => List.mem_cons_of_mem _ (List.mem_append_right _ (h))) (List.mem_of_getElem? (i := 1) rfl) (ci := 5) rfl (by decide) rfl rfl rfl dX6_reads_132 ?_
                refine j_bipush 135 cx 48 dX6_reads_135 (by decide) ?_
                refine j_bipush 137 cx 57 dX6_reads_137 (by decide) ?_
                refine j_callV_i 139 cx 3 [0, 1] [.int (nI e), .int 48, .int 57] (fun _ => wMO o am ik la (nI n) tk (nI s) (nI e) (nI v) bd ++ [((am 4), .inl (gI G, 120, .inl t))]) (c_X6_isByte (kl K) G o am ik la tk (nI s) (nI e) (nI v) bd t n e 48 57 (by omega) hn) gX6_reads_X6_isByte rfl rfl rfl ⟨rfl, by decide, by decide, rfl⟩ ⟨Nat.le_of_ble_eq_true rfl, Nat.le_of_ble_eq_true rfl⟩ ⟨Nat.zero_le _, Nat.zero_le _⟩ rfl (by decide) (ci := 5) 0 rfl rfl rfl rfl rfl (Nat.le_of_ble_eq_true rfl) dX6_reads_139 (fun _ => rfl) (fun zu6 zk6 => ?_)
                refine j_top (bI (isb t n 48 57 e)) rfl ?_
                refine j_if_eq_T 142 cx 199 dX6_reads_142 (by decide) (by rw [isb_n (by omega)]; rfl) ?_
                have hsk : sk t n 48 57 s = e := hE.trans (sk_f (isb_n (by omega)))
                have hvk : nv t n 0 s = v := hV.trans (nv_f (isb_n (by omega)))
                refine j_aload_n 199 cx 0 dX6_reads_199 rfl ?_
                refine j_bipush 200 cx 20 dX6_reads_200 (by decide) ?_
                refine j_put 202 cx 0 8 (wMO o am ik la (nI n) 20 (nI s) (nI e) (nI v) bd ++ [((am 4), .inl (gI G, 120, .inl t))]) (T := TX6) (ty0 := tyX6) (fun _ h => List.mem_cons_of_mem _ (List.mem_append_right _ (h))) (List.mem_of_getElem? (i := 5) rfl) (ci := 5) rfl (by decide) rfl tyX6_ok nmX6 rfl rfl rfl rfl (Nat.le_of_ble_eq_true rfl) rfl dX6_reads_202 ?_
                refine j_goto 205 cx 244 dX6_reads_205 (by decide) ?_
                have hr9 : rdT t n p = (20, s, e, v) := rd_num hb (by omega) (isb_0 (by omega) zc2) (isb_1 zc3).2 hsk hvk
                have hk9 : nI (mT (rK (rdT t n p))) = 20 := by rw [hr9] <;> rfl
                have hb9 : rB (rdT t n p) = s := by rw [hr9]
                have ha9 : rA (rdT t n p) = e := by rw [hr9]
                have hv9 : nI (rV (rdT t n p)) = nI v := by rw [hr9] <;> rfl
                exact fin () _ _ _ dX6_reads_244 (by rw [hk9, hb9, ha9, hv9] <;> rfl) trivial
              | succ d ih130 =>
                intro e v he he2 hE hV hv
                refine j_aload_n 130 cx 0 dX6_reads_130 rfl ?_
                refine j_aload_n 131 cx 0 dX6_reads_131 rfl ?_
                refine j_get 132 cx 0 10 (T := TX6) (v := .int (nI e)) (fun _ h => List.mem_cons_of_mem _ (List.mem_append_right _ (h))) (List.mem_of_getElem? (i := 1) rfl) (ci := 5) rfl (by decide) rfl rfl rfl dX6_reads_132 ?_
                refine j_bipush 135 cx 48 dX6_reads_135 (by decide) ?_
                refine j_bipush 137 cx 57 dX6_reads_137 (by decide) ?_
                refine j_callV_i 139 cx 3 [0, 1] [.int (nI e), .int 48, .int 57] (fun _ => wMO o am ik la (nI n) tk (nI s) (nI e) (nI v) bd ++ [((am 4), .inl (gI G, 120, .inl t))]) (c_X6_isByte (kl K) G o am ik la tk (nI s) (nI e) (nI v) bd t n e 48 57 (by omega) hn) gX6_reads_X6_isByte rfl rfl rfl ⟨rfl, by decide, by decide, rfl⟩ ⟨Nat.le_of_ble_eq_true rfl, Nat.le_of_ble_eq_true rfl⟩ ⟨Nat.zero_le _, Nat.zero_le _⟩ rfl (by decide) (ci := 5) 0 rfl rfl rfl rfl rfl (Nat.le_of_ble_eq_true rfl) dX6_reads_139 (fun _ => rfl) (fun zu7 zk7 => ?_)
                refine j_top (bI (isb t n 48 57 e)) rfl ?_
                refine j_ifB_eq 142 cx 199 dX6_reads_142 (by decide) (fun zc5 => ?_) (fun zc5 => ?_)
                · skip
                  have hsk : sk t n 48 57 s = e := hE.trans (sk_f zc5)
                  have hvk : nv t n 0 s = v := hV.trans (nv_f zc5)
                  refine j_aload_n 199 cx 0 dX6_reads_199 rfl ?_
                  refine j_bipush 200 cx 20 dX6_reads_200 (by decide) ?_
                  refine j_put 202 cx 0 8 (wMO o am ik la (nI n) 20 (nI s) (nI e) (nI v) bd ++ [((am 4), .inl (gI G, 120, .inl t))]) (T := TX6) (ty0 := tyX6) (fun _ h => List.mem_cons_of_mem _ (List.mem_append_right _ (h))) (List.mem_of_getElem? (i := 5) rfl) (ci := 5) rfl (by decide) rfl tyX6_ok nmX6 rfl rfl rfl rfl (Nat.le_of_ble_eq_true rfl) rfl dX6_reads_202 ?_
                  refine j_goto 205 cx 244 dX6_reads_205 (by decide) ?_
                  have hr9 : rdT t n p = (20, s, e, v) := rd_num hb (by omega) (isb_0 (by omega) zc2) (isb_1 zc3).2 hsk hvk
                  have hk9 : nI (mT (rK (rdT t n p))) = 20 := by rw [hr9] <;> rfl
                  have hb9 : rB (rdT t n p) = s := by rw [hr9]
                  have ha9 : rA (rdT t n p) = e := by rw [hr9]
                  have hv9 : nI (rV (rdT t n p)) = nI v := by rw [hr9] <;> rfl
                  exact fin () _ _ _ dX6_reads_244 (by rw [hk9, hb9, ha9, hv9] <;> rfl) trivial
                · skip
                  have hdb := zc5
                  have hdz := (isb_1 hdb).2
                  refine j_aload_n 145 cx 0 dX6_reads_145 rfl ?_
                  refine j_aload_n 146 cx 0 dX6_reads_146 rfl ?_
                  refine j_get 147 cx 0 11 (T := TX6) (v := .int (nI v)) (fun _ h => List.mem_cons_of_mem _ (List.mem_append_right _ (h))) (List.mem_of_getElem? (i := 3) rfl) (ci := 5) rfl (by decide) rfl rfl rfl dX6_reads_147 ?_
                  refine j_sipush 150 cx 9999 dX6_reads_150 (by decide) ?_
                  refine j_icmp_le 153 cx 163 dX6_reads_153 (by decide) (fun zc6 => ?_) (fun zc6 => ?_)
                  · skip
                    have hv9 : v ≤ 9999 := by have h1 := mt (nI_ltI (a := 9999) (b := v) (by omega) (by omega)).mpr (Int32.not_lt.mpr zc6); omega
                    refine j_bipush 163 cx 10 dX6_reads_163 (by decide) ?_
                    refine j_aload_n 165 cx 0 dX6_reads_165 rfl ?_
                    refine j_get 166 cx 0 11 (T := TX6) (v := .int (nI v)) (fun _ h => List.mem_cons_of_mem _ (List.mem_append_right _ (h))) (List.mem_of_getElem? (i := 3) rfl) (ci := 5) rfl (by decide) rfl rfl rfl dX6_reads_166 ?_
                    refine j_imul 169 cx dX6_reads_169 ?_
                    refine j_top (nI (10 * v)) (pk_mul 10 v) ?_
                    refine j_aload_n 170 cx 0 dX6_reads_170 rfl ?_
                    refine j_get 171 cx 0 6 (T := TX6) (v := .ref ((am 4))) (fun _ h => List.mem_cons_of_mem _ (List.mem_append_right _ (h))) (List.mem_of_getElem? (i := 6) rfl) (ci := 5) rfl (by decide) rfl rfl rfl dX6_reads_171 ?_
                    refine j_aload_n 174 cx 0 dX6_reads_174 rfl ?_
                    refine j_get 175 cx 0 10 (T := TX6) (v := .int (nI e)) (fun _ h => List.mem_cons_of_mem _ (List.mem_append_right _ (h))) (List.mem_of_getElem? (i := 1) rfl) (ci := 5) rfl (by decide) rfl rfl rfl dX6_reads_175 ?_
                    refine j_iald 178 cx 1 e rfl rfl (by omega) (by decide) dX6_reads_178 ?_
                    refine j_iadd 179 cx dX6_reads_179 ?_
                    refine j_bipush 180 cx 48 dX6_reads_180 (by decide) ?_
                    refine j_isub 182 cx dX6_reads_182 ?_
                    refine j_top (nI (dgt v (t e))) (dg_add hT hdz hv9) ?_
                    refine j_put 183 cx 0 11 (wMO o am ik la (nI n) tk (nI s) (nI e) (nI (dgt v (t e))) bd ++ [((am 4), .inl (gI G, 120, .inl t))]) (T := TX6) (ty0 := tyX6) (fun _ h => List.mem_cons_of_mem _ (List.mem_append_right _ (h))) (List.mem_of_getElem? (i := 3) rfl) (ci := 5) rfl (by decide) rfl tyX6_ok nmX6 rfl rfl rfl rfl (Nat.le_of_ble_eq_true rfl) rfl dX6_reads_183 ?_
                    refine j_aload_n 186 cx 0 dX6_reads_186 rfl ?_
                    refine j_dup 187 cx dX6_reads_187 rfl ?_
                    refine j_get 188 cx 0 10 (T := TX6) (v := .int (nI e)) (fun _ h => List.mem_cons_of_mem _ (List.mem_append_right _ (h))) (List.mem_of_getElem? (i := 1) rfl) (ci := 5) rfl (by decide) rfl rfl rfl dX6_reads_188 ?_
                    refine j_iconst 191 cx 1 dX6_reads_191 (by decide) ?_
                    refine j_iadd 192 cx dX6_reads_192 ?_
                    refine j_top (nI (e + 1)) (nI_add e 1) ?_
                    refine j_put 193 cx 0 10 (wMO o am ik la (nI n) tk (nI s) (nI (e + 1)) (nI (dgt v (t e))) bd ++ [((am 4), .inl (gI G, 120, .inl t))]) (T := TX6) (ty0 := tyX6) (fun _ h => List.mem_cons_of_mem _ (List.mem_append_right _ (h))) (List.mem_of_getElem? (i := 1) rfl) (ci := 5) rfl (by decide) rfl tyX6_ok nmX6 rfl rfl rfl rfl (Nat.le_of_ble_eq_true rfl) rfl dX6_reads_193 ?_
                    refine j_goto 196 cx 130 dX6_reads_196 (by decide) ?_
                    exact ih130 (e + 1) (dgt v (t e)) (by omega) (by omega) (hE.trans (sk_t hdb)) (hV.trans (nv_t hdb)) (dgt_le (dg_lt hT hdz) hv)
                  · skip
                    have hv9 : 9999 < v := (nI_ltI (a := 9999) (b := v) (by omega) (by omega)).mp (Int32.not_le.mp zc6)
                    refine j_aload_n 156 cx 0 dX6_reads_156 rfl ?_
                    refine j_get 157 cx 0 11 (T := TX6) (v := .int (nI v)) (fun _ h => List.mem_cons_of_mem _ (List.mem_append_right _ (h))) (List.mem_of_getElem? (i := 3) rfl) (ci := 5) rfl (by decide) rfl rfl rfl dX6_reads_157 ?_
                    refine j_top (nI (dgt v (t e))) (congrArg nI (dg_stay hv9).symm) ?_
                    refine j_goto 160 cx 183 dX6_reads_160 (by decide) ?_
                    refine j_put 183 cx 0 11 (wMO o am ik la (nI n) tk (nI s) (nI e) (nI (dgt v (t e))) bd ++ [((am 4), .inl (gI G, 120, .inl t))]) (T := TX6) (ty0 := tyX6) (fun _ h => List.mem_cons_of_mem _ (List.mem_append_right _ (h))) (List.mem_of_getElem? (i := 3) rfl) (ci := 5) rfl (by decide) rfl tyX6_ok nmX6 rfl rfl rfl rfl (Nat.le_of_ble_eq_true rfl) rfl dX6_reads_183 ?_
                    refine j_aload_n 186 cx 0 dX6_reads_186 rfl ?_
                    refine j_dup 187 cx dX6_reads_187 rfl ?_
                    refine j_get 188 cx 0 10 (T := TX6) (v := .int (nI e)) (fun _ h => List.mem_cons_of_mem _ (List.mem_append_right _ (h))) (List.mem_of_getElem? (i := 1) rfl) (ci := 5) rfl (by decide) rfl rfl rfl dX6_reads_188 ?_
                    refine j_iconst 191 cx 1 dX6_reads_191 (by decide) ?_
                    refine j_iadd 192 cx dX6_reads_192 ?_
                    refine j_top (nI (e + 1)) (nI_add e 1) ?_
                    refine j_put 193 cx 0 10 (wMO o am ik la (nI n) tk (nI s) (nI (e + 1)) (nI (dgt v (t e))) bd ++ [((am 4), .inl (gI G, 120, .inl t))]) (T := TX6) (ty0 := tyX6) (fun _ h => List.mem_cons_of_mem _ (List.mem_append_right _ (h))) (List.mem_of_getElem? (i := 1) rfl) (ci := 5) rfl (by decide) rfl tyX6_ok nmX6 rfl rfl rfl rfl (Nat.le_of_ble_eq_true rfl) rfl dX6_reads_193 ?_
                    refine j_goto 196 cx 130 dX6_reads_196 (by decide) ?_
                    exact ih130 (e + 1) (dgt v (t e)) (by omega) (by omega) (hE.trans (sk_t hdb)) (hV.trans (nv_t hdb)) (dgt_le (dg_lt hT hdz) hv)
            exact L130 (n - s) s 0 (by omega) (Nat.le_refl _) rfl rfl (by omega)
        · skip
          have L76 : ∀ d : Nat, ∀ (e : Nat), (e + d = n) → (s ≤ e) → (sk t n 97 122 s = sk t n 97 122 e) → JJ G K 0 0 (wMO o am ik la (nI n) tk (nI s) (nI e) 0 bd ++ [((am 4), .inl (gI G, 120, .inl t))]) [(0, .ref o)] 76 [] := by
            intro d
            induction d with
            | zero =>
              intro e he he2 hE
              refine j_aload_n 76 cx 0 dX6_reads_76 rfl ?_
              refine j_aload_n 77 cx 0 dX6_reads_77 rfl ?_
              refine j_get 78 cx 0 10 (T := TX6) (v := .int (nI e)) (fun _ h => List.mem_cons_of_mem _ (List.mem_append_right _ (h))) (List.mem_of_getElem? (i := 1) rfl) (ci := 5) rfl (by decide) rfl rfl rfl dX6_reads_78 ?_
              refine j_bipush 81 cx 97 dX6_reads_81 (by decide) ?_
              refine j_bipush 83 cx 122 dX6_reads_83 (by decide) ?_
              refine j_callV_i 85 cx 3 [0, 1] [.int (nI e), .int 97, .int 122] (fun _ => wMO o am ik la (nI n) tk (nI s) (nI e) 0 bd ++ [((am 4), .inl (gI G, 120, .inl t))]) (c_X6_isByte (kl K) G o am ik la tk (nI s) (nI e) 0 bd t n e 97 122 (by omega) hn) gX6_reads_X6_isByte rfl rfl rfl ⟨rfl, by decide, by decide, rfl⟩ ⟨Nat.le_of_ble_eq_true rfl, Nat.le_of_ble_eq_true rfl⟩ ⟨Nat.zero_le _, Nat.zero_le _⟩ rfl (by decide) (ci := 5) 0 rfl rfl rfl rfl rfl (Nat.le_of_ble_eq_true rfl) dX6_reads_85 (fun _ => rfl) (fun zu8 zk8 => ?_)
              refine j_top (bI (isb t n 97 122 e)) rfl ?_
              refine j_if_eq_T 88 cx 104 dX6_reads_88 (by decide) (by rw [isb_n (by omega)]; rfl) ?_
              have hsk : sk t n 97 122 s = e := hE.trans (sk_f (isb_n (by omega)))
              refine j_aload_n 104 cx 0 dX6_reads_104 rfl ?_
              refine j_aload_n 105 cx 0 dX6_reads_105 rfl ?_
              refine j_callV_i 106 cx 0 [0, 1] [] (fun _ => wMO o am ik la (nI n) tk (nI s) (nI e) 0 bd ++ [((am 4), .inl (gI G, 120, .inl t))]) (c_X6_wordHere (kl K) G o am ik la tk 0 bd t n s e (by omega) (by omega) hn (fun j hj => (isb_1 (sk_in (t := t) (n := n) (k := s) (j := s + j) (by omega) (by omega))).2)) gX6_reads_X6_wordHere rfl rfl rfl ⟨rfl, by decide, by decide, rfl⟩ ⟨Nat.le_of_ble_eq_true rfl, Nat.le_of_ble_eq_true rfl⟩ ⟨Nat.zero_le _, Nat.zero_le _⟩ rfl (by decide) (ci := 5) 0 rfl rfl rfl rfl rfl (Nat.le_of_ble_eq_true rfl) dX6_reads_106 (fun _ => rfl) (fun zu9 zk9 => ?_)
              refine j_top (nI (mT (wI t s (e - s)))) rfl ?_
              refine j_put 109 cx 0 8 (wMO o am ik la (nI n) (nI (mT (wI t s (e - s)))) (nI s) (nI e) 0 bd ++ [((am 4), .inl (gI G, 120, .inl t))]) (T := TX6) (ty0 := tyX6) (fun _ h => List.mem_cons_of_mem _ (List.mem_append_right _ (h))) (List.mem_of_getElem? (i := 5) rfl) (ci := 5) rfl (by decide) rfl tyX6_ok nmX6 rfl rfl rfl rfl (Nat.le_of_ble_eq_true rfl) rfl dX6_reads_109 ?_
              refine j_goto 112 cx 244 dX6_reads_112 (by decide) ?_
              have hr9 : rdT t n p = (wI t s (e - s), s, e, 0) := rd_word hb (by omega) (isb_1 zc2).2 hsk
              have hk9 : nI (mT (rK (rdT t n p))) = nI (mT (wI t s (e - s))) := by rw [hr9] <;> rfl
              have hb9 : rB (rdT t n p) = s := by rw [hr9]
              have ha9 : rA (rdT t n p) = e := by rw [hr9]
              have hv9 : nI (rV (rdT t n p)) = 0 := by rw [hr9] <;> rfl
              exact fin () _ _ _ dX6_reads_244 (by rw [hk9, hb9, ha9, hv9] <;> rfl) trivial
            | succ d ih76 =>
              intro e he he2 hE
              refine j_aload_n 76 cx 0 dX6_reads_76 rfl ?_
              refine j_aload_n 77 cx 0 dX6_reads_77 rfl ?_
              refine j_get 78 cx 0 10 (T := TX6) (v := .int (nI e)) (fun _ h => List.mem_cons_of_mem _ (List.mem_append_right _ (h))) (List.mem_of_getElem? (i := 1) rfl) (ci := 5) rfl (by decide) rfl rfl rfl dX6_reads_78 ?_
              refine j_bipush 81 cx 97 dX6_reads_81 (by decide) ?_
              refine j_bipush 83 cx 122 dX6_reads_83 (by decide) ?_
              refine j_callV_i 85 cx 3 [0, 1] [.int (nI e), .int 97, .int 122] (fun _ => wMO o am ik la (nI n) tk (nI s) (nI e) 0 bd ++ [((am 4), .inl (gI G, 120, .inl t))]) (c_X6_isByte (kl K) G o am ik la tk (nI s) (nI e) 0 bd t n e 97 122 (by omega) hn) gX6_reads_X6_isByte rfl rfl rfl ⟨rfl, by decide, by decide, rfl⟩ ⟨Nat.le_of_ble_eq_true rfl, Nat.le_of_ble_eq_true rfl⟩ ⟨Nat.zero_le _, Nat.zero_le _⟩ rfl (by decide) (ci := 5) 0 rfl rfl rfl rfl rfl (Nat.le_of_ble_eq_true rfl) dX6_reads_85 (fun _ => rfl) (fun zu10 zk10 => ?_)
              refine j_top (bI (isb t n 97 122 e)) rfl ?_
              refine j_ifB_eq 88 cx 104 dX6_reads_88 (by decide) (fun zc7 => ?_) (fun zc7 => ?_)
              · skip
                have hsk : sk t n 97 122 s = e := hE.trans (sk_f zc7)
                refine j_aload_n 104 cx 0 dX6_reads_104 rfl ?_
                refine j_aload_n 105 cx 0 dX6_reads_105 rfl ?_
                refine j_callV_i 106 cx 0 [0, 1] [] (fun _ => wMO o am ik la (nI n) tk (nI s) (nI e) 0 bd ++ [((am 4), .inl (gI G, 120, .inl t))]) (c_X6_wordHere (kl K) G o am ik la tk 0 bd t n s e (by omega) (by omega) hn (fun j hj => (isb_1 (sk_in (t := t) (n := n) (k := s) (j := s + j) (by omega) (by omega))).2)) gX6_reads_X6_wordHere rfl rfl rfl ⟨rfl, by decide, by decide, rfl⟩ ⟨Nat.le_of_ble_eq_true rfl, Nat.le_of_ble_eq_true rfl⟩ ⟨Nat.zero_le _, Nat.zero_le _⟩ rfl (by decide) (ci := 5) 0 rfl rfl rfl rfl rfl (Nat.le_of_ble_eq_true rfl) dX6_reads_106 (fun _ => rfl) (fun zu11 zk11 => ?_)
                refine j_top (nI (mT (wI t s (e - s)))) rfl ?_
                refine j_put 109 cx 0 8 (wMO o am ik la (nI n) (nI (mT (wI t s (e - s)))) (nI s) (nI e) 0 bd ++ [((am 4), .inl (gI G, 120, .inl t))]) (T := TX6) (ty0 := tyX6) (fun _ h => List.mem_cons_of_mem _ (List.mem_append_right _ (h))) (List.mem_of_getElem? (i := 5) rfl) (ci := 5) rfl (by decide) rfl tyX6_ok nmX6 rfl rfl rfl rfl (Nat.le_of_ble_eq_true rfl) rfl dX6_reads_109 ?_
                refine j_goto 112 cx 244 dX6_reads_112 (by decide) ?_
                have hr9 : rdT t n p = (wI t s (e - s), s, e, 0) := rd_word hb (by omega) (isb_1 zc2).2 hsk
                have hk9 : nI (mT (rK (rdT t n p))) = nI (mT (wI t s (e - s))) := by rw [hr9] <;> rfl
                have hb9 : rB (rdT t n p) = s := by rw [hr9]
                have ha9 : rA (rdT t n p) = e := by rw [hr9]
                have hv9 : nI (rV (rdT t n p)) = 0 := by rw [hr9] <;> rfl
                exact fin () _ _ _ dX6_reads_244 (by rw [hk9, hb9, ha9, hv9] <;> rfl) trivial
              · skip
                refine j_aload_n 91 cx 0 dX6_reads_91 rfl ?_
                refine j_dup 92 cx dX6_reads_92 rfl ?_
                refine j_get 93 cx 0 10 (T := TX6) (v := .int (nI e)) (fun _ h => List.mem_cons_of_mem _ (List.mem_append_right _ (h))) (List.mem_of_getElem? (i := 1) rfl) (ci := 5) rfl (by decide) rfl rfl rfl dX6_reads_93 ?_
                refine j_iconst 96 cx 1 dX6_reads_96 (by decide) ?_
                refine j_iadd 97 cx dX6_reads_97 ?_
                refine j_top (nI (e + 1)) (nI_add e 1) ?_
                refine j_put 98 cx 0 10 (wMO o am ik la (nI n) tk (nI s) (nI (e + 1)) 0 bd ++ [((am 4), .inl (gI G, 120, .inl t))]) (T := TX6) (ty0 := tyX6) (fun _ h => List.mem_cons_of_mem _ (List.mem_append_right _ (h))) (List.mem_of_getElem? (i := 1) rfl) (ci := 5) rfl (by decide) rfl tyX6_ok nmX6 rfl rfl rfl rfl (Nat.le_of_ble_eq_true rfl) rfl dX6_reads_98 ?_
                refine j_goto 101 cx 76 dX6_reads_101 (by decide) ?_
                exact ih76 (e + 1) (by omega) (by omega) (hE.trans (sk_t zc7))
          exact L76 (n - s) s (by omega) (Nat.le_refl _) rfl
      · skip
        refine j_aload_n 15 cx 0 dX6_reads_15 rfl ?_
        refine j_dup 16 cx dX6_reads_16 rfl ?_
        refine j_get 17 cx 0 10 (T := TX6) (v := .int (nI s)) (fun _ h => List.mem_cons_of_mem _ (List.mem_append_right _ (h))) (List.mem_of_getElem? (i := 1) rfl) (ci := 5) rfl (by decide) rfl rfl rfl dX6_reads_17 ?_
        refine j_iconst 20 cx 1 dX6_reads_20 (by decide) ?_
        refine j_iadd 21 cx dX6_reads_21 ?_
        refine j_top (nI (s + 1)) (nI_add s 1) ?_
        refine j_put 22 cx 0 10 (wMO o am ik la (nI n) tk be (nI (s + 1)) va bd ++ [((am 4), .inl (gI G, 120, .inl t))]) (T := TX6) (ty0 := tyX6) (fun _ h => List.mem_cons_of_mem _ (List.mem_append_right _ (h))) (List.mem_of_getElem? (i := 1) rfl) (ci := 5) rfl (by decide) rfl tyX6_ok nmX6 rfl rfl rfl rfl (Nat.le_of_ble_eq_true rfl) rfl dX6_reads_22 ?_
        refine j_goto 25 cx 0 dX6_reads_25 (by decide) ?_
        exact ih0 (s + 1) (by omega) (by omega) (hS.trans (sk_t zc1))
  exact L0 (n - p) p (by omega) (Nat.le_refl _) rfl
set_option maxRecDepth 100000 in
set_option maxHeartbeats 4000000 in
theorem c_X6_number_t (l : Launch) (G : pG) (o : Nat) (am : Nat → Nat) (ik : Bool) (la : Int32) (t : TF) (n : Nat) (r : RT) (hT : okT t) (hn : n ≤ 120) (hr : RW t n r) (lo hi : Nat) (hl : hi ≤ 9999) (hl0 : lo ≤ 9999) (hok : nOk r lo hi = true) : KI l G yX6_number wsX6_number ({ frames := 3, cells := 0, slots := 0, locals := 66 } : Room) [.ref o, .int (nI lo), .int (nI hi)] (wMO o am ik la (nI n) (nI (mT (rK r))) (nI (rB r)) (nI (rA r)) (nI (rV r)) false ++ [((am 4), .inl (gI G, 120, .inl t))]) (S := Unit) (fun _ => True) (fun u => nI (rV r)) (fun u => wMO o am ik la (nI n) (nI (mT (rK (nx t n r)))) (nI (rB (nx t n r))) (nI (rA (nx t n r))) (nI (rV (nx t n r))) false ++ [((am 4), .inl (gI G, 120, .inl t))]) := by
  have hvv := hr.vv hT
  have hkk := hr.kk
  have hn9 := nOk_t hok
  refine ki_of [(0, .ref o), (1, .int (nI lo)), (2, .int (nI hi))] (own := RX6) (cc := cX6_number) (nL := 4) (by decide +kernel) rfl rfl (Nat.le_of_ble_eq_true rfl) rfl (fun _ => rfl) (fun K cx fin => ?_)
  refine j_aload_n 0 cx 0 dX6_number_0 rfl ?_
  refine j_get 1 cx 0 11 (T := TX6) (v := .int (nI (rV r))) (fun _ h => List.mem_cons_of_mem _ (List.mem_append_right _ (h))) (List.mem_of_getElem? (i := 1) rfl) (ci := 5) rfl (by decide) rfl rfl rfl dX6_number_1 ?_
  refine j_istore_n 4 cx [(3, .int (nI (rV r))), (0, .ref o), (1, .int (nI lo)), (2, .int (nI hi))] dX6_number_4 (by decide) rfl ?_
  refine j_aload_n 5 cx 1 dX6_number_5 rfl ?_
  refine j_aload_n 6 cx 1 dX6_number_6 rfl ?_
  refine j_get 7 cx 0 12 (T := TX6) (v := .int (bI (false))) (fun _ h => List.mem_cons_of_mem _ (List.mem_append_right _ (h))) (List.mem_of_getElem? (i := 2) rfl) (ci := 5) rfl (by decide) rfl rfl rfl dX6_number_7 ?_
  refine j_if_ne_F 10 cx 32 dX6_number_10 (by decide) rfl ?_
  refine j_aload_n 13 cx 1 dX6_number_13 rfl ?_
  refine j_get 14 cx 0 8 (T := TX6) (v := .int (nI (mT (rK r)))) (fun _ h => List.mem_cons_of_mem _ (List.mem_append_right _ (h))) (List.mem_of_getElem? (i := 3) rfl) (ci := 5) rfl (by decide) rfl rfl rfl dX6_number_14 ?_
  refine j_bipush 17 cx 20 dX6_number_17 (by decide) ?_
  refine j_icmp_ne_F 19 cx 32 dX6_number_19 (by decide) (by rw [hn9.1]; rfl) ?_
  refine j_iload_n 22 cx 0 dX6_number_22 rfl ?_
  refine j_i2l 23 cx dX6_number_23 ?_
  refine j_iload_n 24 cx 2 dX6_number_24 rfl ?_
  refine j_iload_n 25 cx 3 dX6_number_25 rfl ?_
  refine j_callS_i 26 cx 3 [] [.long ((nI (rV r)).toInt64), .int (nI lo), .int (nI hi)] (fun _ => wMO o am ik la (nI n) (nI (mT (rK r))) (nI (rB r)) (nI (rA r)) (nI (rV r)) false ++ [((am 4), .inl (gI G, 120, .inl t))]) (c_X6_in (kl K) G ((nI (rV r)).toInt64) (nI lo) (nI hi)) gX6_number_X6_in rfl rfl rfl ⟨by decide, by decide, rfl⟩ ⟨Nat.le_of_ble_eq_true rfl, Nat.le_of_ble_eq_true rfl⟩ ⟨Nat.zero_le _, Nat.zero_le _⟩ rfl (by decide) rfl rfl (Nat.le_of_ble_eq_true rfl) dX6_number_26 (fun _ => rfl) (fun zu1 zk1 => ?_)
  refine j_top (bI (inL ((nI (rV r)).toInt64) (nI lo) (nI hi))) rfl ?_
  refine j_top (bI (inI (nI (rV r)) (nI lo) (nI hi))) (congrArg bI (inL_i (nI (rV r)) (nI lo) (nI hi))) ?_
  refine j_if_ne_T 29 cx 36 dX6_number_29 (by decide) (by rw [nr_t hn9.2.1 hn9.2.2 hl]; decide) ?_
  refine j_iconst 36 cx 0 dX6_number_36 (by decide) ?_
  refine j_put 37 cx 0 12 (wMO o am ik la (nI n) (nI (mT (rK r))) (nI (rB r)) (nI (rA r)) (nI (rV r)) false ++ [((am 4), .inl (gI G, 120, .inl t))]) (T := TX6) (ty0 := tyX6) (fun _ h => List.mem_cons_of_mem _ (List.mem_append_right _ (h))) (List.mem_of_getElem? (i := 2) rfl) (ci := 5) rfl (by decide) rfl tyX6_ok nmX6 rfl rfl rfl rfl (Nat.le_of_ble_eq_true rfl) rfl dX6_number_37 ?_
  refine j_aload_n 40 cx 1 dX6_number_40 rfl ?_
  refine j_get 41 cx 0 12 (T := TX6) (v := .int (bI (false))) (fun _ h => List.mem_cons_of_mem _ (List.mem_append_right _ (h))) (List.mem_of_getElem? (i := 2) rfl) (ci := 5) rfl (by decide) rfl rfl rfl dX6_number_41 ?_
  refine j_if_ne_F 44 cx 51 dX6_number_44 (by decide) rfl ?_
  refine j_aload_n 47 cx 1 dX6_number_47 rfl ?_
  refine j_callV_v 48 cx 0 [0, 1] [] (fun _ => wMO o am ik la (nI n) (nI (mT (rK (nx t n r)))) (nI (rB (nx t n r))) (nI (rA (nx t n r))) (nI (rV (nx t n r))) false ++ [((am 4), .inl (gI G, 120, .inl t))]) (c_X6_reads (kl K) G o am ik la (nI (mT (rK r))) (nI (rB r)) (nI (rV r)) false t n (rA r) hT hn hr.an) gX6_number_X6_reads rfl rfl rfl ⟨rfl, by decide, by decide, rfl⟩ ⟨Nat.le_of_ble_eq_true rfl, Nat.le_of_ble_eq_true rfl⟩ ⟨Nat.zero_le _, Nat.zero_le _⟩ rfl (by decide) (ci := 5) 0 rfl rfl rfl rfl rfl (Nat.le_of_ble_eq_true rfl) dX6_number_48 (fun _ => rfl) (fun zu2 zk2 => ?_)
  refine j_iload_n 51 cx 0 dX6_number_51 rfl ?_
  exact fin () _ _ _ _ dX6_number_52 rfl rfl rfl trivial
set_option maxRecDepth 100000 in
set_option maxHeartbeats 4000000 in
theorem c_X6_number_f (l : Launch) (G : pG) (o : Nat) (am : Nat → Nat) (ik : Bool) (la : Int32) (t : TF) (n : Nat) (r : RT) (hT : okT t) (hn : n ≤ 120) (hr : RW t n r) (lo hi : Nat) (hl : hi ≤ 9999) (hl0 : lo ≤ 9999) (hok : nOk r lo hi = false) : KI l G yX6_number wsX6_number ({ frames := 3, cells := 0, slots := 0, locals := 66 } : Room) [.ref o, .int (nI lo), .int (nI hi)] (wMO o am ik la (nI n) (nI (mT (rK r))) (nI (rB r)) (nI (rA r)) (nI (rV r)) false ++ [((am 4), .inl (gI G, 120, .inl t))]) (S := Unit) (fun _ => True) (fun u => nI (rV r)) (fun u => wMO o am ik la (nI n) (nI (mT (rK r))) (nI (rB r)) (nI (rA r)) (nI (rV r)) true ++ [((am 4), .inl (gI G, 120, .inl t))]) := by
  have hvv := hr.vv hT
  have hkk := hr.kk
  have hn9 := nOk_f hok
  refine ki_of [(0, .ref o), (1, .int (nI lo)), (2, .int (nI hi))] (own := RX6) (cc := cX6_number) (nL := 4) (by decide +kernel) rfl rfl (Nat.le_of_ble_eq_true rfl) rfl (fun _ => rfl) (fun K cx fin => ?_)
  refine j_aload_n 0 cx 0 dX6_number_0 rfl ?_
  refine j_get 1 cx 0 11 (T := TX6) (v := .int (nI (rV r))) (fun _ h => List.mem_cons_of_mem _ (List.mem_append_right _ (h))) (List.mem_of_getElem? (i := 1) rfl) (ci := 5) rfl (by decide) rfl rfl rfl dX6_number_1 ?_
  refine j_istore_n 4 cx [(3, .int (nI (rV r))), (0, .ref o), (1, .int (nI lo)), (2, .int (nI hi))] dX6_number_4 (by decide) rfl ?_
  refine j_aload_n 5 cx 1 dX6_number_5 rfl ?_
  refine j_aload_n 6 cx 1 dX6_number_6 rfl ?_
  refine j_get 7 cx 0 12 (T := TX6) (v := .int (bI (false))) (fun _ h => List.mem_cons_of_mem _ (List.mem_append_right _ (h))) (List.mem_of_getElem? (i := 2) rfl) (ci := 5) rfl (by decide) rfl rfl rfl dX6_number_7 ?_
  refine j_if_ne_F 10 cx 32 dX6_number_10 (by decide) rfl ?_
  refine j_aload_n 13 cx 1 dX6_number_13 rfl ?_
  refine j_get 14 cx 0 8 (T := TX6) (v := .int (nI (mT (rK r)))) (fun _ h => List.mem_cons_of_mem _ (List.mem_append_right _ (h))) (List.mem_of_getElem? (i := 3) rfl) (ci := 5) rfl (by decide) rfl rfl rfl dX6_number_14 ?_
  refine j_bipush 17 cx 20 dX6_number_17 (by decide) ?_
  refine j_icmp_ne 19 cx 32 dX6_number_19 (by decide) (fun zc1 => ?_) (fun zc1 => ?_)
  · skip
    refine j_iconst 32 cx 1 dX6_number_32 (by decide) ?_
    refine j_goto 33 cx 37 dX6_number_33 (by decide) ?_
    refine j_put 37 cx 0 12 (wMO o am ik la (nI n) (nI (mT (rK r))) (nI (rB r)) (nI (rA r)) (nI (rV r)) true ++ [((am 4), .inl (gI G, 120, .inl t))]) (T := TX6) (ty0 := tyX6) (fun _ h => List.mem_cons_of_mem _ (List.mem_append_right _ (h))) (List.mem_of_getElem? (i := 2) rfl) (ci := 5) rfl (by decide) rfl tyX6_ok nmX6 rfl rfl rfl rfl (Nat.le_of_ble_eq_true rfl) rfl dX6_number_37 ?_
    refine j_aload_n 40 cx 1 dX6_number_40 rfl ?_
    refine j_get 41 cx 0 12 (T := TX6) (v := .int (bI (true))) (fun _ h => List.mem_cons_of_mem _ (List.mem_append_right _ (h))) (List.mem_of_getElem? (i := 2) rfl) (ci := 5) rfl (by decide) rfl rfl rfl dX6_number_41 ?_
    refine j_if_ne_T 44 cx 51 dX6_number_44 (by decide) (by decide) ?_
    refine j_iload_n 51 cx 0 dX6_number_51 rfl ?_
    exact fin () _ _ _ _ dX6_number_52 rfl rfl rfl trivial
  · skip
    refine j_iload_n 22 cx 0 dX6_number_22 rfl ?_
    refine j_i2l 23 cx dX6_number_23 ?_
    refine j_iload_n 24 cx 2 dX6_number_24 rfl ?_
    refine j_iload_n 25 cx 3 dX6_number_25 rfl ?_
    refine j_callS_i 26 cx 3 [] [.long ((nI (rV r)).toInt64), .int (nI lo), .int (nI hi)] (fun _ => wMO o am ik la (nI n) (nI (mT (rK r))) (nI (rB r)) (nI (rA r)) (nI (rV r)) false ++ [((am 4), .inl (gI G, 120, .inl t))]) (c_X6_in (kl K) G ((nI (rV r)).toInt64) (nI lo) (nI hi)) gX6_number_X6_in rfl rfl rfl ⟨by decide, by decide, rfl⟩ ⟨Nat.le_of_ble_eq_true rfl, Nat.le_of_ble_eq_true rfl⟩ ⟨Nat.zero_le _, Nat.zero_le _⟩ rfl (by decide) rfl rfl (Nat.le_of_ble_eq_true rfl) dX6_number_26 (fun _ => rfl) (fun zu1 zk1 => ?_)
    refine j_top (bI (inL ((nI (rV r)).toInt64) (nI lo) (nI hi))) rfl ?_
    refine j_top (bI (inI (nI (rV r)) (nI lo) (nI hi))) (congrArg bI (inL_i (nI (rV r)) (nI lo) (nI hi))) ?_
    refine j_if_ne_F 29 cx 36 dX6_number_29 (by decide) (by rw [nr_f (fun q => hn9 ⟨mT_20 zc1 hkk, q⟩) hl hvv hl0]; rfl) ?_
    refine j_iconst 32 cx 1 dX6_number_32 (by decide) ?_
    refine j_goto 33 cx 37 dX6_number_33 (by decide) ?_
    refine j_put 37 cx 0 12 (wMO o am ik la (nI n) (nI (mT (rK r))) (nI (rB r)) (nI (rA r)) (nI (rV r)) true ++ [((am 4), .inl (gI G, 120, .inl t))]) (T := TX6) (ty0 := tyX6) (fun _ h => List.mem_cons_of_mem _ (List.mem_append_right _ (h))) (List.mem_of_getElem? (i := 2) rfl) (ci := 5) rfl (by decide) rfl tyX6_ok nmX6 rfl rfl rfl rfl (Nat.le_of_ble_eq_true rfl) rfl dX6_number_37 ?_
    refine j_aload_n 40 cx 1 dX6_number_40 rfl ?_
    refine j_get 41 cx 0 12 (T := TX6) (v := .int (bI (true))) (fun _ h => List.mem_cons_of_mem _ (List.mem_append_right _ (h))) (List.mem_of_getElem? (i := 2) rfl) (ci := 5) rfl (by decide) rfl rfl rfl dX6_number_41 ?_
    refine j_if_ne_T 44 cx 51 dX6_number_44 (by decide) (by decide) ?_
    refine j_iload_n 51 cx 0 dX6_number_51 rfl ?_
    exact fin () _ _ _ _ dX6_number_52 rfl rfl rfl trivial
set_option maxRecDepth 100000 in
set_option maxHeartbeats 4000000 in
theorem c_X6_number_b (l : Launch) (G : pG) (o : Nat) (am : Nat → Nat) (ik : Bool) (la : Int32) (t : TF) (n : Nat) (r : RT) (hT : okT t) (hn : n ≤ 120) (hr : RW t n r) (lo hi : Nat) (hl : hi ≤ 9999) (hl0 : lo ≤ 9999)  : KI l G yX6_number wsX6_number ({ frames := 3, cells := 0, slots := 0, locals := 66 } : Room) [.ref o, .int (nI lo), .int (nI hi)] (wMO o am ik la (nI n) (nI (mT (rK r))) (nI (rB r)) (nI (rA r)) (nI (rV r)) true ++ [((am 4), .inl (gI G, 120, .inl t))]) (S := Unit) (fun _ => True) (fun u => nI (rV r)) (fun u => wMO o am ik la (nI n) (nI (mT (rK r))) (nI (rB r)) (nI (rA r)) (nI (rV r)) true ++ [((am 4), .inl (gI G, 120, .inl t))]) := by
  refine ki_of [(0, .ref o), (1, .int (nI lo)), (2, .int (nI hi))] (own := RX6) (cc := cX6_number) (nL := 4) (by decide +kernel) rfl rfl (Nat.le_of_ble_eq_true rfl) rfl (fun _ => rfl) (fun K cx fin => ?_)
  refine j_aload_n 0 cx 0 dX6_number_0 rfl ?_
  refine j_get 1 cx 0 11 (T := TX6) (v := .int (nI (rV r))) (fun _ h => List.mem_cons_of_mem _ (List.mem_append_right _ (h))) (List.mem_of_getElem? (i := 1) rfl) (ci := 5) rfl (by decide) rfl rfl rfl dX6_number_1 ?_
  refine j_istore_n 4 cx [(3, .int (nI (rV r))), (0, .ref o), (1, .int (nI lo)), (2, .int (nI hi))] dX6_number_4 (by decide) rfl ?_
  refine j_aload_n 5 cx 1 dX6_number_5 rfl ?_
  refine j_aload_n 6 cx 1 dX6_number_6 rfl ?_
  refine j_get 7 cx 0 12 (T := TX6) (v := .int (bI (true))) (fun _ h => List.mem_cons_of_mem _ (List.mem_append_right _ (h))) (List.mem_of_getElem? (i := 2) rfl) (ci := 5) rfl (by decide) rfl rfl rfl dX6_number_7 ?_
  refine j_if_ne_T 10 cx 32 dX6_number_10 (by decide) (by decide) ?_
  refine j_iconst 32 cx 1 dX6_number_32 (by decide) ?_
  refine j_goto 33 cx 37 dX6_number_33 (by decide) ?_
  refine j_put 37 cx 0 12 (wMO o am ik la (nI n) (nI (mT (rK r))) (nI (rB r)) (nI (rA r)) (nI (rV r)) true ++ [((am 4), .inl (gI G, 120, .inl t))]) (T := TX6) (ty0 := tyX6) (fun _ h => List.mem_cons_of_mem _ (List.mem_append_right _ (h))) (List.mem_of_getElem? (i := 2) rfl) (ci := 5) rfl (by decide) rfl tyX6_ok nmX6 rfl rfl rfl rfl (Nat.le_of_ble_eq_true rfl) rfl dX6_number_37 ?_
  refine j_aload_n 40 cx 1 dX6_number_40 rfl ?_
  refine j_get 41 cx 0 12 (T := TX6) (v := .int (bI (true))) (fun _ h => List.mem_cons_of_mem _ (List.mem_append_right _ (h))) (List.mem_of_getElem? (i := 2) rfl) (ci := 5) rfl (by decide) rfl rfl rfl dX6_number_41 ?_
  refine j_if_ne_T 44 cx 51 dX6_number_44 (by decide) (by decide) ?_
  refine j_iload_n 51 cx 0 dX6_number_51 rfl ?_
  exact fin () _ _ _ _ dX6_number_52 rfl rfl rfl trivial
set_option maxRecDepth 100000 in
set_option maxHeartbeats 4000000 in
theorem c_X6_passes_t (l : Launch) (G : pG) (o : Nat) (am : Nat → Nat) (ik : Bool) (la : Int32) (t : TF) (n : Nat) (r : RT) (hT : okT t) (hn : n ≤ 120) (hr : RW t n r) (w : Nat) (hw : w < 23) (hk : rK r = w) : KI l G yX6_passes wsX6_passes ({ frames := 3, cells := 0, slots := 0, locals := 66 } : Room) [.ref o, .int (nI w)] (wMO o am ik la (nI n) (nI (mT (rK r))) (nI (rB r)) (nI (rA r)) (nI (rV r)) false ++ [((am 4), .inl (gI G, 120, .inl t))]) (S := Unit) (fun _ => True) (fun u => 1) (fun u => wMO o am ik la (nI n) (nI (mT (rK (nx t n r)))) (nI (rB (nx t n r))) (nI (rA (nx t n r))) (nI (rV (nx t n r))) false ++ [((am 4), .inl (gI G, 120, .inl t))]) := by
  refine ki_of [(0, .ref o), (1, .int (nI w))] (own := RX6) (cc := cX6_passes) (nL := 2) (by decide +kernel) rfl rfl (Nat.le_of_ble_eq_true rfl) rfl (fun _ => rfl) (fun K cx fin => ?_)
  refine j_aload_n 0 cx 0 dX6_passes_0 rfl ?_
  refine j_get 1 cx 0 12 (T := TX6) (v := .int (bI (false))) (fun _ h => List.mem_cons_of_mem _ (List.mem_append_right _ (h))) (List.mem_of_getElem? (i := 1) rfl) (ci := 5) rfl (by decide) rfl rfl rfl dX6_passes_1 ?_
  refine j_if_ne_F 4 cx 15 dX6_passes_4 (by decide) rfl ?_
  refine j_aload_n 7 cx 0 dX6_passes_7 rfl ?_
  refine j_get 8 cx 0 8 (T := TX6) (v := .int (nI (mT (rK r)))) (fun _ h => List.mem_cons_of_mem _ (List.mem_append_right _ (h))) (List.mem_of_getElem? (i := 2) rfl) (ci := 5) rfl (by decide) rfl rfl rfl dX6_passes_8 ?_
  refine j_iload_n 11 cx 1 dX6_passes_11 rfl ?_
  refine j_icmp_eq_T 12 cx 17 dX6_passes_12 (by decide) (mT_w hk hw) ?_
  refine j_aload_n 17 cx 0 dX6_passes_17 rfl ?_
  refine j_callV_v 18 cx 0 [0, 1] [] (fun _ => wMO o am ik la (nI n) (nI (mT (rK (nx t n r)))) (nI (rB (nx t n r))) (nI (rA (nx t n r))) (nI (rV (nx t n r))) false ++ [((am 4), .inl (gI G, 120, .inl t))]) (c_X6_reads (kl K) G o am ik la (nI (mT (rK r))) (nI (rB r)) (nI (rV r)) false t n (rA r) hT hn hr.an) gX6_passes_X6_reads rfl rfl rfl ⟨rfl, by decide, by decide, rfl⟩ ⟨Nat.le_of_ble_eq_true rfl, Nat.le_of_ble_eq_true rfl⟩ ⟨Nat.zero_le _, Nat.zero_le _⟩ rfl (by decide) (ci := 5) 0 rfl rfl rfl rfl rfl (Nat.le_of_ble_eq_true rfl) dX6_passes_18 (fun _ => rfl) (fun zu1 zk1 => ?_)
  refine j_iconst 21 cx 1 dX6_passes_21 (by decide) ?_
  exact fin () _ _ _ _ dX6_passes_22 rfl rfl rfl trivial
set_option maxRecDepth 100000 in
set_option maxHeartbeats 4000000 in
theorem c_X6_passes_f (l : Launch) (G : pG) (o : Nat) (am : Nat → Nat) (ik : Bool) (la : Int32) (t : TF) (n : Nat) (r : RT) (hT : okT t) (hn : n ≤ 120) (hr : RW t n r) (w : Nat) (hw : w < 23) (hk : ¬ rK r = w) : KI l G yX6_passes wsX6_passes ({ frames := 3, cells := 0, slots := 0, locals := 66 } : Room) [.ref o, .int (nI w)] (wMO o am ik la (nI n) (nI (mT (rK r))) (nI (rB r)) (nI (rA r)) (nI (rV r)) false ++ [((am 4), .inl (gI G, 120, .inl t))]) (S := Unit) (fun _ => True) (fun u => 0) (fun u => wMO o am ik la (nI n) (nI (mT (rK r))) (nI (rB r)) (nI (rA r)) (nI (rV r)) false ++ [((am 4), .inl (gI G, 120, .inl t))]) := by
  refine ki_of [(0, .ref o), (1, .int (nI w))] (own := RX6) (cc := cX6_passes) (nL := 2) (by decide +kernel) rfl rfl (Nat.le_of_ble_eq_true rfl) rfl (fun _ => rfl) (fun K cx fin => ?_)
  refine j_aload_n 0 cx 0 dX6_passes_0 rfl ?_
  refine j_get 1 cx 0 12 (T := TX6) (v := .int (bI (false))) (fun _ h => List.mem_cons_of_mem _ (List.mem_append_right _ (h))) (List.mem_of_getElem? (i := 1) rfl) (ci := 5) rfl (by decide) rfl rfl rfl dX6_passes_1 ?_
  refine j_if_ne_F 4 cx 15 dX6_passes_4 (by decide) rfl ?_
  refine j_aload_n 7 cx 0 dX6_passes_7 rfl ?_
  refine j_get 8 cx 0 8 (T := TX6) (v := .int (nI (mT (rK r)))) (fun _ h => List.mem_cons_of_mem _ (List.mem_append_right _ (h))) (List.mem_of_getElem? (i := 2) rfl) (ci := 5) rfl (by decide) rfl rfl rfl dX6_passes_8 ?_
  refine j_iload_n 11 cx 1 dX6_passes_11 rfl ?_
  refine j_icmp_eq_F 12 cx 17 dX6_passes_12 (by decide) (mT_ne hk hw hr.kk) ?_
  refine j_iconst 15 cx 0 dX6_passes_15 (by decide) ?_
  exact fin () _ _ _ _ dX6_passes_16 rfl rfl rfl trivial
set_option maxRecDepth 100000 in
set_option maxHeartbeats 4000000 in
theorem c_X6_passes_b (l : Launch) (G : pG) (o : Nat) (am : Nat → Nat) (ik : Bool) (la : Int32) (t : TF) (n : Nat) (r : RT) (hT : okT t) (hn : n ≤ 120) (hr : RW t n r) (w : Nat) (hw : w < 23)  : KI l G yX6_passes wsX6_passes ({ frames := 3, cells := 0, slots := 0, locals := 66 } : Room) [.ref o, .int (nI w)] (wMO o am ik la (nI n) (nI (mT (rK r))) (nI (rB r)) (nI (rA r)) (nI (rV r)) true ++ [((am 4), .inl (gI G, 120, .inl t))]) (S := Unit) (fun _ => True) (fun u => 0) (fun u => wMO o am ik la (nI n) (nI (mT (rK r))) (nI (rB r)) (nI (rA r)) (nI (rV r)) true ++ [((am 4), .inl (gI G, 120, .inl t))]) := by
  refine ki_of [(0, .ref o), (1, .int (nI w))] (own := RX6) (cc := cX6_passes) (nL := 2) (by decide +kernel) rfl rfl (Nat.le_of_ble_eq_true rfl) rfl (fun _ => rfl) (fun K cx fin => ?_)
  refine j_aload_n 0 cx 0 dX6_passes_0 rfl ?_
  refine j_get 1 cx 0 12 (T := TX6) (v := .int (bI (true))) (fun _ h => List.mem_cons_of_mem _ (List.mem_append_right _ (h))) (List.mem_of_getElem? (i := 1) rfl) (ci := 5) rfl (by decide) rfl rfl rfl dX6_passes_1 ?_
  refine j_if_ne_T 4 cx 15 dX6_passes_4 (by decide) (by decide) ?_
  refine j_iconst 15 cx 0 dX6_passes_15 (by decide) ?_
  exact fin () _ _ _ _ dX6_passes_16 rfl rfl rfl trivial
set_option maxRecDepth 100000 in
set_option maxHeartbeats 4000000 in
theorem c_X6_perhaps_n (l : Launch) (G : pG) (o : Nat) (am : Nat → Nat) (ik : Bool) (la : Int32) (t : TF) (n : Nat) (r : RT) (hT : okT t) (hn : n ≤ 120) (hr : RW t n r) (w : Nat) (hw : w < 23) (lo hi : Nat) (hl : hi ≤ 9999) (hl0 : lo ≤ 9999) (so : Nat) (hk : decide (rK r = w) = false)  : KI l G yX6_perhaps wsX6_perhaps ({ frames := 4, cells := 0, slots := 0, locals := 89 } : Room) [.ref o, .int (nI w), .int (nI lo), .int (nI hi), .int (nI so)] (wMO o am ik la (nI n) (nI (mT (rK r))) (nI (rB r)) (nI (rA r)) (nI (rV r)) false ++ [((am 4), .inl (gI G, 120, .inl t))]) (S := Unit) (fun _ => True) (fun u => nI so) (fun u => wMO o am ik la (nI n) (nI (mT (rK r))) (nI (rB r)) (nI (rA r)) (nI (rV r)) false ++ [((am 4), .inl (gI G, 120, .inl t))]) := by
  refine ki_of [(0, .ref o), (1, .int (nI w)), (2, .int (nI lo)), (3, .int (nI hi)), (4, .int (nI so))] (own := RX6) (cc := cX6_perhaps) (nL := 5) (by decide +kernel) rfl rfl (Nat.le_of_ble_eq_true rfl) rfl (fun _ => rfl) (fun K cx fin => ?_)
  refine j_aload_n 0 cx 0 dX6_perhaps_0 rfl ?_
  refine j_iload_n 1 cx 1 dX6_perhaps_1 rfl ?_
  refine j_callV_i 2 cx 1 [0, 1] [.int (nI w)] (fun _ => wMO o am ik la (nI n) (nI (mT (rK r))) (nI (rB r)) (nI (rA r)) (nI (rV r)) false ++ [((am 4), .inl (gI G, 120, .inl t))]) (c_X6_passes_f (kl K) G o am ik la t n r hT hn hr w hw (of_decide_eq_false hk)) gX6_perhaps_X6_passes rfl rfl rfl ⟨rfl, by decide, by decide, rfl⟩ ⟨Nat.le_of_ble_eq_true rfl, Nat.le_of_ble_eq_true rfl⟩ ⟨Nat.zero_le _, Nat.zero_le _⟩ rfl (by decide) (ci := 5) 0 rfl rfl rfl rfl rfl (Nat.le_of_ble_eq_true rfl) dX6_perhaps_2 (fun _ => rfl) (fun zu1 zk1 => ?_)
  refine j_top (0) rfl ?_
  refine j_if_eq_T 5 cx 17 dX6_perhaps_5 (by decide) (by decide) ?_
  refine j_iload 17 cx 4 dX6_perhaps_17 rfl ?_
  exact fin () _ _ _ _ dX6_perhaps_19 rfl rfl rfl trivial
set_option maxRecDepth 100000 in
set_option maxHeartbeats 4000000 in
theorem c_X6_perhaps_y (l : Launch) (G : pG) (o : Nat) (am : Nat → Nat) (ik : Bool) (la : Int32) (t : TF) (n : Nat) (r : RT) (hT : okT t) (hn : n ≤ 120) (hr : RW t n r) (w : Nat) (hw : w < 23) (lo hi : Nat) (hl : hi ≤ 9999) (hl0 : lo ≤ 9999) (so : Nat) (hk : decide (rK r = w) = true) (hok : nOk (nx t n r) lo hi = true) : KI l G yX6_perhaps wsX6_perhaps ({ frames := 4, cells := 0, slots := 0, locals := 89 } : Room) [.ref o, .int (nI w), .int (nI lo), .int (nI hi), .int (nI so)] (wMO o am ik la (nI n) (nI (mT (rK r))) (nI (rB r)) (nI (rA r)) (nI (rV r)) false ++ [((am 4), .inl (gI G, 120, .inl t))]) (S := Unit) (fun _ => True) (fun u => nI (rV (nx t n r))) (fun u => wMO o am ik la (nI n) (nI (mT (rK (nx t n (nx t n r))))) (nI (rB (nx t n (nx t n r)))) (nI (rA (nx t n (nx t n r)))) (nI (rV (nx t n (nx t n r)))) false ++ [((am 4), .inl (gI G, 120, .inl t))]) := by
  refine ki_of [(0, .ref o), (1, .int (nI w)), (2, .int (nI lo)), (3, .int (nI hi)), (4, .int (nI so))] (own := RX6) (cc := cX6_perhaps) (nL := 5) (by decide +kernel) rfl rfl (Nat.le_of_ble_eq_true rfl) rfl (fun _ => rfl) (fun K cx fin => ?_)
  refine j_aload_n 0 cx 0 dX6_perhaps_0 rfl ?_
  refine j_iload_n 1 cx 1 dX6_perhaps_1 rfl ?_
  refine j_callV_i 2 cx 1 [0, 1] [.int (nI w)] (fun _ => wMO o am ik la (nI n) (nI (mT (rK (nx t n r)))) (nI (rB (nx t n r))) (nI (rA (nx t n r))) (nI (rV (nx t n r))) false ++ [((am 4), .inl (gI G, 120, .inl t))]) (c_X6_passes_t (kl K) G o am ik la t n r hT hn hr w hw (of_decide_eq_true hk)) gX6_perhaps_X6_passes rfl rfl rfl ⟨rfl, by decide, by decide, rfl⟩ ⟨Nat.le_of_ble_eq_true rfl, Nat.le_of_ble_eq_true rfl⟩ ⟨Nat.zero_le _, Nat.zero_le _⟩ rfl (by decide) (ci := 5) 0 rfl rfl rfl rfl rfl (Nat.le_of_ble_eq_true rfl) dX6_perhaps_2 (fun _ => rfl) (fun zu1 zk1 => ?_)
  refine j_top (1) rfl ?_
  refine j_if_eq_F 5 cx 17 dX6_perhaps_5 (by decide) (by decide) ?_
  refine j_aload_n 8 cx 0 dX6_perhaps_8 rfl ?_
  refine j_iload_n 9 cx 2 dX6_perhaps_9 rfl ?_
  refine j_iload_n 10 cx 3 dX6_perhaps_10 rfl ?_
  refine j_callV_i 11 cx 2 [0, 1] [.int (nI lo), .int (nI hi)] (fun _ => wMO o am ik la (nI n) (nI (mT (rK (nx t n (nx t n r))))) (nI (rB (nx t n (nx t n r)))) (nI (rA (nx t n (nx t n r)))) (nI (rV (nx t n (nx t n r)))) false ++ [((am 4), .inl (gI G, 120, .inl t))]) (c_X6_number_t (kl K) G o am ik la t n (nx t n r) hT hn hr.nxt lo hi hl hl0 hok) gX6_perhaps_X6_number rfl rfl rfl ⟨rfl, by decide, by decide, rfl⟩ ⟨Nat.le_of_ble_eq_true rfl, Nat.le_of_ble_eq_true rfl⟩ ⟨Nat.zero_le _, Nat.zero_le _⟩ rfl (by decide) (ci := 5) 0 rfl rfl rfl rfl rfl (Nat.le_of_ble_eq_true rfl) dX6_perhaps_11 (fun _ => rfl) (fun zu2 zk2 => ?_)
  have hvzn1 := nOk_t hok
  refine j_top (nI (rV (nx t n r))) rfl ?_
  refine j_goto 14 cx 19 dX6_perhaps_14 (by decide) ?_
  exact fin () _ _ _ _ dX6_perhaps_19 rfl rfl rfl trivial
set_option maxRecDepth 100000 in
set_option maxHeartbeats 4000000 in
theorem c_X6_perhaps_x (l : Launch) (G : pG) (o : Nat) (am : Nat → Nat) (ik : Bool) (la : Int32) (t : TF) (n : Nat) (r : RT) (hT : okT t) (hn : n ≤ 120) (hr : RW t n r) (w : Nat) (hw : w < 23) (lo hi : Nat) (hl : hi ≤ 9999) (hl0 : lo ≤ 9999) (so : Nat) (hk : decide (rK r = w) = true) (hok : nOk (nx t n r) lo hi = false) : KI l G yX6_perhaps wsX6_perhaps ({ frames := 4, cells := 0, slots := 0, locals := 89 } : Room) [.ref o, .int (nI w), .int (nI lo), .int (nI hi), .int (nI so)] (wMO o am ik la (nI n) (nI (mT (rK r))) (nI (rB r)) (nI (rA r)) (nI (rV r)) false ++ [((am 4), .inl (gI G, 120, .inl t))]) (S := Unit) (fun _ => True) (fun u => nI (rV (nx t n r))) (fun u => wMO o am ik la (nI n) (nI (mT (rK (nx t n r)))) (nI (rB (nx t n r))) (nI (rA (nx t n r))) (nI (rV (nx t n r))) true ++ [((am 4), .inl (gI G, 120, .inl t))]) := by
  refine ki_of [(0, .ref o), (1, .int (nI w)), (2, .int (nI lo)), (3, .int (nI hi)), (4, .int (nI so))] (own := RX6) (cc := cX6_perhaps) (nL := 5) (by decide +kernel) rfl rfl (Nat.le_of_ble_eq_true rfl) rfl (fun _ => rfl) (fun K cx fin => ?_)
  refine j_aload_n 0 cx 0 dX6_perhaps_0 rfl ?_
  refine j_iload_n 1 cx 1 dX6_perhaps_1 rfl ?_
  refine j_callV_i 2 cx 1 [0, 1] [.int (nI w)] (fun _ => wMO o am ik la (nI n) (nI (mT (rK (nx t n r)))) (nI (rB (nx t n r))) (nI (rA (nx t n r))) (nI (rV (nx t n r))) false ++ [((am 4), .inl (gI G, 120, .inl t))]) (c_X6_passes_t (kl K) G o am ik la t n r hT hn hr w hw (of_decide_eq_true hk)) gX6_perhaps_X6_passes rfl rfl rfl ⟨rfl, by decide, by decide, rfl⟩ ⟨Nat.le_of_ble_eq_true rfl, Nat.le_of_ble_eq_true rfl⟩ ⟨Nat.zero_le _, Nat.zero_le _⟩ rfl (by decide) (ci := 5) 0 rfl rfl rfl rfl rfl (Nat.le_of_ble_eq_true rfl) dX6_perhaps_2 (fun _ => rfl) (fun zu1 zk1 => ?_)
  refine j_top (1) rfl ?_
  refine j_if_eq_F 5 cx 17 dX6_perhaps_5 (by decide) (by decide) ?_
  refine j_aload_n 8 cx 0 dX6_perhaps_8 rfl ?_
  refine j_iload_n 9 cx 2 dX6_perhaps_9 rfl ?_
  refine j_iload_n 10 cx 3 dX6_perhaps_10 rfl ?_
  refine j_callV_i 11 cx 2 [0, 1] [.int (nI lo), .int (nI hi)] (fun _ => wMO o am ik la (nI n) (nI (mT (rK (nx t n r)))) (nI (rB (nx t n r))) (nI (rA (nx t n r))) (nI (rV (nx t n r))) true ++ [((am 4), .inl (gI G, 120, .inl t))]) (c_X6_number_f (kl K) G o am ik la t n (nx t n r) hT hn hr.nxt lo hi hl hl0 hok) gX6_perhaps_X6_number rfl rfl rfl ⟨rfl, by decide, by decide, rfl⟩ ⟨Nat.le_of_ble_eq_true rfl, Nat.le_of_ble_eq_true rfl⟩ ⟨Nat.zero_le _, Nat.zero_le _⟩ rfl (by decide) (ci := 5) 0 rfl rfl rfl rfl rfl (Nat.le_of_ble_eq_true rfl) dX6_perhaps_11 (fun _ => rfl) (fun zu2 zk2 => ?_)
  refine j_top (nI (rV (nx t n r))) rfl ?_
  refine j_goto 14 cx 19 dX6_perhaps_14 (by decide) ?_
  exact fin () _ _ _ _ dX6_perhaps_19 rfl rfl rfl trivial
set_option maxRecDepth 100000 in
set_option maxHeartbeats 4000000 in
theorem c_X6_perhaps_b (l : Launch) (G : pG) (o : Nat) (am : Nat → Nat) (ik : Bool) (la : Int32) (t : TF) (n : Nat) (r : RT) (hT : okT t) (hn : n ≤ 120) (hr : RW t n r) (w : Nat) (hw : w < 23) (lo hi : Nat) (hl : hi ≤ 9999) (hl0 : lo ≤ 9999) (so : Nat)  : KI l G yX6_perhaps wsX6_perhaps ({ frames := 4, cells := 0, slots := 0, locals := 89 } : Room) [.ref o, .int (nI w), .int (nI lo), .int (nI hi), .int (nI so)] (wMO o am ik la (nI n) (nI (mT (rK r))) (nI (rB r)) (nI (rA r)) (nI (rV r)) true ++ [((am 4), .inl (gI G, 120, .inl t))]) (S := Unit) (fun _ => True) (fun u => nI so) (fun u => wMO o am ik la (nI n) (nI (mT (rK r))) (nI (rB r)) (nI (rA r)) (nI (rV r)) true ++ [((am 4), .inl (gI G, 120, .inl t))]) := by
  refine ki_of [(0, .ref o), (1, .int (nI w)), (2, .int (nI lo)), (3, .int (nI hi)), (4, .int (nI so))] (own := RX6) (cc := cX6_perhaps) (nL := 5) (by decide +kernel) rfl rfl (Nat.le_of_ble_eq_true rfl) rfl (fun _ => rfl) (fun K cx fin => ?_)
  refine j_aload_n 0 cx 0 dX6_perhaps_0 rfl ?_
  refine j_iload_n 1 cx 1 dX6_perhaps_1 rfl ?_
  refine j_callV_i 2 cx 1 [0, 1] [.int (nI w)] (fun _ => wMO o am ik la (nI n) (nI (mT (rK r))) (nI (rB r)) (nI (rA r)) (nI (rV r)) true ++ [((am 4), .inl (gI G, 120, .inl t))]) (c_X6_passes_b (kl K) G o am ik la t n r hT hn hr w hw) gX6_perhaps_X6_passes rfl rfl rfl ⟨rfl, by decide, by decide, rfl⟩ ⟨Nat.le_of_ble_eq_true rfl, Nat.le_of_ble_eq_true rfl⟩ ⟨Nat.zero_le _, Nat.zero_le _⟩ rfl (by decide) (ci := 5) 0 rfl rfl rfl rfl rfl (Nat.le_of_ble_eq_true rfl) dX6_perhaps_2 (fun _ => rfl) (fun zu1 zk1 => ?_)
  refine j_top (0) rfl ?_
  refine j_if_eq_T 5 cx 17 dX6_perhaps_5 (by decide) (by decide) ?_
  refine j_iload 17 cx 4 dX6_perhaps_17 rfl ?_
  exact fin () _ _ _ _ dX6_perhaps_19 rfl rfl rfl trivial
set_option maxRecDepth 100000 in
set_option maxHeartbeats 4000000 in
theorem c_X6_partItem (l : Launch) (G : pG) (o : Nat) (am : Nat → Nat) (ik : Bool) (la : Int32) (b0 : Bool) (t : TF) (n : Nat) (r : RT) (hT : okT t) (hn : n ≤ 120) (hr : RW t n r) (σ : Nu) (hI : Inv σ) (h5 : rK r ≤ 5) : KV l G yX6_partItem wsX6_partItem ({ frames := 5, cells := 0, slots := 0, locals := 113 } : Room) [.ref o] (wMO o am ik la (nI n) (nI (mT (rK r))) (nI (rB r)) (nI (rA r)) (nI (rV r)) b0 ++ ([((am 4), .inl (gI G, 120, .inl t))] ++ [((am 0), .inl (gI G, 51, .inl (mm σ)))])) (S := Unit) (fun _ => True) (fun u => wMO o am ik la (nI n) (nI (mT (rK (pIt t n r σ (nI (rK r))).2.1))) (nI (rB (pIt t n r σ (nI (rK r))).2.1)) (nI (rA (pIt t n r σ (nI (rK r))).2.1)) (nI (rV (pIt t n r σ (nI (rK r))).2.1)) (!(pIt t n r σ (nI (rK r))).1) ++ ([((am 4), .inl (gI G, 120, .inl t))] ++ [((am 0), .inl (gI G, 51, .inl (mm (pIt t n r σ (nI (rK r))).2.2)))])) := by
  have h8 := hI.sz8
  refine kv_of [(0, .ref o)] (own := RX6) (cc := cX6_partItem) (nL := 6) (by decide +kernel) rfl rfl (Nat.le_of_ble_eq_true rfl) rfl (fun _ => rfl) (fun K cx fin => ?_)
  refine j_aload_n 0 cx 0 dX6_partItem_0 rfl ?_
  refine j_get 1 cx 0 8 (T := TX6) (v := .int (nI (mT (rK r)))) (fun _ h => List.mem_cons_of_mem _ (List.mem_append_right _ (h))) (List.mem_of_getElem? (i := 1) rfl) (ci := 5) rfl (by decide) rfl rfl rfl dX6_partItem_1 ?_
  refine j_top (nI (rK r)) (mT_w rfl (by omega)) ?_
  refine j_istore_n 4 cx [(1, .int (nI (rK r))), (0, .ref o)] dX6_partItem_4 (by decide) rfl ?_
  refine j_aload_n 5 cx 1 dX6_partItem_5 rfl ?_
  refine j_aload_n 6 cx 1 dX6_partItem_6 rfl ?_
  refine j_get 7 cx 0 0 (T := TX6) (v := .ref ((am 0))) (fun _ h => List.mem_cons_of_mem _ (List.mem_append_right _ (h))) (List.mem_of_getElem? (i := 2) rfl) (ci := 5) rfl (by decide) rfl rfl rfl dX6_partItem_7 ?_
  refine j_iconst 10 cx 3 dX6_partItem_10 (by decide) ?_
  refine j_iald 11 cx 2 3 rfl rfl (by omega) (by decide) dX6_partItem_11 ?_
  refine j_top (σ 0 3) rfl ?_
  refine j_top (nI (szN σ)) hI.sz ?_
  refine j_bipush 12 cx 8 dX6_partItem_12 (by decide) ?_
  refine j_icmp_ne 14 cx 21 dX6_partItem_14 (by decide) (fun zc1 => ?_) (fun zc1 => ?_)
  · skip
    have hz9 : ¬ szN σ = 8 := fun q => zc1 (by rw [q]; rfl)
    have hz8 : szN σ < 8 := by omega
    refine j_iconst 21 cx 0 dX6_partItem_21 (by decide) ?_
    refine j_put 22 cx 0 12 (wMO o am ik la (nI n) (nI (mT (rK r))) (nI (rB r)) (nI (rA r)) (nI (rV r)) false ++ ([((am 4), .inl (gI G, 120, .inl t))] ++ [((am 0), .inl (gI G, 51, .inl (mm σ)))])) (T := TX6) (ty0 := tyX6) (fun _ h => List.mem_cons_of_mem _ (List.mem_append_right _ (h))) (List.mem_of_getElem? (i := 3) rfl) (ci := 5) rfl (by decide) rfl tyX6_ok nmX6 rfl rfl rfl rfl (Nat.le_of_ble_eq_true rfl) rfl dX6_partItem_22 ?_
    refine j_aload_n 25 cx 1 dX6_partItem_25 rfl ?_
    refine j_get 26 cx 0 12 (T := TX6) (v := .int (bI (false))) (fun _ h => List.mem_cons_of_mem _ (List.mem_append_right _ (h))) (List.mem_of_getElem? (i := 3) rfl) (ci := 5) rfl (by decide) rfl rfl rfl dX6_partItem_26 ?_
    refine j_if_eq_T 29 cx 33 dX6_partItem_29 (by decide) rfl ?_
    refine j_aload_n 33 cx 1 dX6_partItem_33 rfl ?_
    refine j_callV_v 34 cx 0 [0, 1] [] (fun _ => wMO o am ik la (nI n) (nI (mT (rK (nx t n r)))) (nI (rB (nx t n r))) (nI (rA (nx t n r))) (nI (rV (nx t n r))) false ++ ([((am 4), .inl (gI G, 120, .inl t))] ++ [((am 0), .inl (gI G, 51, .inl (mm σ)))])) (c_X6_reads (kl K) G o am ik la (nI (mT (rK r))) (nI (rB r)) (nI (rV r)) false t n (rA r) hT hn hr.an) gX6_partItem_X6_reads rfl rfl rfl ⟨rfl, by decide, by decide, rfl⟩ ⟨Nat.le_of_ble_eq_true rfl, Nat.le_of_ble_eq_true rfl⟩ ⟨Nat.zero_le _, Nat.zero_le _⟩ rfl (by decide) (ci := 5) 0 rfl rfl rfl rfl rfl (Nat.le_of_ble_eq_true rfl) dX6_partItem_34 (fun _ => rfl) (fun zu1 zk1 => ?_)
    refine j_aload_n 37 cx 1 dX6_partItem_37 rfl ?_
    refine j_iconst 38 cx 0 dX6_partItem_38 (by decide) ?_
    rcases bcase (nOk (nx t n r) 0 9999) with zc2 | zc2
    · skip
      refine j_sipush 39 cx 9999 dX6_partItem_39 (by decide) ?_
      refine j_callV_i 42 cx 2 [0, 1] [.int 0, .int 9999] (fun _ => wMO o am ik la (nI n) (nI (mT (rK (nx t n (nx t n r))))) (nI (rB (nx t n (nx t n r)))) (nI (rA (nx t n (nx t n r)))) (nI (rV (nx t n (nx t n r)))) false ++ ([((am 4), .inl (gI G, 120, .inl t))] ++ [((am 0), .inl (gI G, 51, .inl (mm σ)))])) (c_X6_number_t (kl K) G o am ik la t n (nx t n r) hT hn hr.nxt 0 9999 (by decide) (by decide) zc2) gX6_partItem_X6_number rfl rfl rfl ⟨rfl, by decide, by decide, rfl⟩ ⟨Nat.le_of_ble_eq_true rfl, Nat.le_of_ble_eq_true rfl⟩ ⟨Nat.zero_le _, Nat.zero_le _⟩ rfl (by decide) (ci := 5) 0 rfl rfl rfl rfl rfl (Nat.le_of_ble_eq_true rfl) dX6_partItem_42 (fun _ => rfl) (fun zu2 zk2 => ?_)
      have hvzn1 := nOk_t zc2
      refine j_top (nI (rV (nx t n r))) rfl ?_
      refine j_istore_n 45 cx [(2, .int (nI (rV (nx t n r)))), (1, .int (nI (rK r))), (0, .ref o)] dX6_partItem_45 (by decide) rfl ?_
      refine j_aload_n 46 cx 2 dX6_partItem_46 rfl ?_
      rcases bcase (decide (rK (nx t n (nx t n r)) = 6)) with zc3 | zc3
      · skip
        refine j_bipush 47 cx 6 dX6_partItem_47 (by decide) ?_
        rcases bcase (nOk (nx t n (nx t n (nx t n r))) 1 99) with zc4 | zc4
        · skip
          refine j_iconst 49 cx 1 dX6_partItem_49 (by decide) ?_
          refine j_bipush 50 cx 99 dX6_partItem_50 (by decide) ?_
          refine j_bipush 52 cx 10 dX6_partItem_52 (by decide) ?_
          refine j_top (nI 10) rfl ?_
          refine j_callV_i 54 cx 4 [0, 1] [.int 6, .int 1, .int 99, .int (nI 10)] (fun _ => wMO o am ik la (nI n) (nI (mT (rK (nx t n (nx t n (nx t n (nx t n r))))))) (nI (rB (nx t n (nx t n (nx t n (nx t n r)))))) (nI (rA (nx t n (nx t n (nx t n (nx t n r)))))) (nI (rV (nx t n (nx t n (nx t n (nx t n r)))))) false ++ ([((am 4), .inl (gI G, 120, .inl t))] ++ [((am 0), .inl (gI G, 51, .inl (mm σ)))])) (c_X6_perhaps_y (kl K) G o am ik la t n (nx t n (nx t n r)) hT hn hr.nxt.nxt 6 (by decide) 1 99 (by decide) (by decide) 10 zc3 zc4) gX6_partItem_X6_perhaps rfl rfl rfl ⟨rfl, by decide, by decide, rfl⟩ ⟨Nat.le_of_ble_eq_true rfl, Nat.le_of_ble_eq_true rfl⟩ ⟨Nat.zero_le _, Nat.zero_le _⟩ rfl (by decide) (ci := 5) 0 rfl rfl rfl rfl rfl (Nat.le_of_ble_eq_true rfl) dX6_partItem_54 (fun _ => rfl) (fun zu3 zk3 => ?_)
          have hvzn2 := nOk_t zc4
          refine j_top (nI (rV (nx t n (nx t n (nx t n r))))) rfl ?_
          refine j_istore_n 57 cx [(3, .int (nI (rV (nx t n (nx t n (nx t n r)))))), (2, .int (nI (rV (nx t n r)))), (1, .int (nI (rK r))), (0, .ref o)] dX6_partItem_57 (by decide) rfl ?_
          refine j_aload_n 58 cx 3 dX6_partItem_58 rfl ?_
          rcases bcase (decide (rK (nx t n (nx t n (nx t n (nx t n r)))) = 7)) with zc5 | zc5
          · skip
            refine j_bipush 59 cx 7 dX6_partItem_59 (by decide) ?_
            rcases bcase (nOk (nx t n (nx t n (nx t n (nx t n (nx t n r))))) 0 99) with zc6 | zc6
            · skip
              refine j_iconst 61 cx 0 dX6_partItem_61 (by decide) ?_
              refine j_bipush 62 cx 99 dX6_partItem_62 (by decide) ?_
              refine j_iconst 64 cx 0 dX6_partItem_64 (by decide) ?_
              refine j_top (nI 0) rfl ?_
              refine j_callV_i 65 cx 4 [0, 1] [.int 7, .int 0, .int 99, .int (nI 0)] (fun _ => wMO o am ik la (nI n) (nI (mT (rK (nx t n (nx t n (nx t n (nx t n (nx t n (nx t n r))))))))) (nI (rB (nx t n (nx t n (nx t n (nx t n (nx t n (nx t n r)))))))) (nI (rA (nx t n (nx t n (nx t n (nx t n (nx t n (nx t n r)))))))) (nI (rV (nx t n (nx t n (nx t n (nx t n (nx t n (nx t n r)))))))) false ++ ([((am 4), .inl (gI G, 120, .inl t))] ++ [((am 0), .inl (gI G, 51, .inl (mm σ)))])) (c_X6_perhaps_y (kl K) G o am ik la t n (nx t n (nx t n (nx t n (nx t n r)))) hT hn hr.nxt.nxt.nxt.nxt 7 (by decide) 0 99 (by decide) (by decide) 0 zc5 zc6) gX6_partItem_X6_perhaps rfl rfl rfl ⟨rfl, by decide, by decide, rfl⟩ ⟨Nat.le_of_ble_eq_true rfl, Nat.le_of_ble_eq_true rfl⟩ ⟨Nat.zero_le _, Nat.zero_le _⟩ rfl (by decide) (ci := 5) 0 rfl rfl rfl rfl rfl (Nat.le_of_ble_eq_true rfl) dX6_partItem_65 (fun _ => rfl) (fun zu4 zk4 => ?_)
              have hvzn3 := nOk_t zc6
              refine j_top (nI (rV (nx t n (nx t n (nx t n (nx t n (nx t n r))))))) rfl ?_
              refine j_istore 68 cx [(4, .int (nI (rV (nx t n (nx t n (nx t n (nx t n (nx t n r)))))))), (3, .int (nI (rV (nx t n (nx t n (nx t n r)))))), (2, .int (nI (rV (nx t n r)))), (1, .int (nI (rK r))), (0, .ref o)] dX6_partItem_68 (by decide) rfl ?_
              refine j_aload_n 70 cx 4 dX6_partItem_70 rfl ?_
              refine j_get 71 cx 0 12 (T := TX6) (v := .int (bI (false))) (fun _ h => List.mem_cons_of_mem _ (List.mem_append_right _ (h))) (List.mem_of_getElem? (i := 3) rfl) (ci := 5) rfl (by decide) rfl rfl rfl dX6_partItem_71 ?_
              refine j_if_ne_F 74 cx 88 dX6_partItem_74 (by decide) rfl ?_
              refine j_aload_n 77 cx 4 dX6_partItem_77 rfl ?_
              refine j_iload_n 78 cx 3 dX6_partItem_78 rfl ?_
              refine j_iload_n 79 cx 2 dX6_partItem_79 rfl ?_
              refine j_iload_n 80 cx 1 dX6_partItem_80 rfl ?_
              refine j_iload 81 cx 0 dX6_partItem_81 rfl ?_
              refine j_callV_i 83 cx 4 [0, 2] [.int (nI (rK r)), .int (nI (rV (nx t n r))), .int (nI (rV (nx t n (nx t n (nx t n r))))), .int (nI (rV (nx t n (nx t n (nx t n (nx t n (nx t n r)))))))] (fun _ => wMO o am ik la (nI n) (nI (mT (rK (nx t n (nx t n (nx t n (nx t n (nx t n (nx t n r))))))))) (nI (rB (nx t n (nx t n (nx t n (nx t n (nx t n (nx t n r)))))))) (nI (rA (nx t n (nx t n (nx t n (nx t n (nx t n (nx t n r)))))))) (nI (rV (nx t n (nx t n (nx t n (nx t n (nx t n (nx t n r)))))))) false ++ ([((am 4), .inl (gI G, 120, .inl t))] ++ [((am 0), .inl (gI G, 51, .inl (mm (addF σ (nI (rK r)) (nI (rV (nx t n (nx t n (nx t n r))))) (nI (rV (nx t n r))) (nI (rV (nx t n (nx t n (nx t n (nx t n (nx t n r)))))))))))])) (c_X6_comesAs (kl K) G o am ik la (nI n) (nI (mT (rK (nx t n (nx t n (nx t n (nx t n (nx t n (nx t n r))))))))) (nI (rB (nx t n (nx t n (nx t n (nx t n (nx t n (nx t n r)))))))) (nI (rA (nx t n (nx t n (nx t n (nx t n (nx t n (nx t n r)))))))) (nI (rV (nx t n (nx t n (nx t n (nx t n (nx t n (nx t n r)))))))) false σ (nI (rK r)) (nI (rV (nx t n r))) (nI (rV (nx t n (nx t n (nx t n r))))) (nI (rV (nx t n (nx t n (nx t n (nx t n (nx t n r))))))) hI.sz hz8) gX6_partItem_X6_comesAs rfl rfl rfl ⟨rfl, by decide, by decide, rfl⟩ ⟨Nat.le_of_ble_eq_true rfl, Nat.le_of_ble_eq_true rfl⟩ ⟨Nat.zero_le _, Nat.zero_le _⟩ rfl (by decide) (ci := 5) 0 rfl rfl rfl rfl rfl (Nat.le_of_ble_eq_true rfl) dX6_partItem_83 (fun _ => rfl) (fun zu5 zk5 => ?_)
              refine j_top (nI (szN σ)) rfl ?_
              refine j_istore 86 cx [(5, .int (nI (szN σ))), (4, .int (nI (rV (nx t n (nx t n (nx t n (nx t n (nx t n r)))))))), (3, .int (nI (rV (nx t n (nx t n (nx t n r)))))), (2, .int (nI (rV (nx t n r)))), (1, .int (nI (rK r))), (0, .ref o)] dX6_partItem_86 (by decide) rfl ?_
              have ze : (pIt t n r σ (nI (rK r))) = (true, (nx t n (nx t n (nx t n (nx t n (nx t n (nx t n r)))))), (addF σ (nI (rK r)) (nI (rV (nx t n (nx t n (nx t n r))))) (nI (rV (nx t n r))) (nI (rV (nx t n (nx t n (nx t n (nx t n (nx t n r))))))))) := by simp [pIt, pIt1, pIt2, opR, hz9, zc2, of_decide_eq_true zc3, zc4, of_decide_eq_true zc5, zc6]
              exact fin () _ _ _ dX6_partItem_88 (by rw [ze] <;> rfl) trivial
            · skip
              refine j_iconst 61 cx 0 dX6_partItem_61 (by decide) ?_
              refine j_bipush 62 cx 99 dX6_partItem_62 (by decide) ?_
              refine j_iconst 64 cx 0 dX6_partItem_64 (by decide) ?_
              refine j_top (nI 0) rfl ?_
              refine j_callV_i 65 cx 4 [0, 1] [.int 7, .int 0, .int 99, .int (nI 0)] (fun _ => wMO o am ik la (nI n) (nI (mT (rK (nx t n (nx t n (nx t n (nx t n (nx t n r)))))))) (nI (rB (nx t n (nx t n (nx t n (nx t n (nx t n r))))))) (nI (rA (nx t n (nx t n (nx t n (nx t n (nx t n r))))))) (nI (rV (nx t n (nx t n (nx t n (nx t n (nx t n r))))))) true ++ ([((am 4), .inl (gI G, 120, .inl t))] ++ [((am 0), .inl (gI G, 51, .inl (mm σ)))])) (c_X6_perhaps_x (kl K) G o am ik la t n (nx t n (nx t n (nx t n (nx t n r)))) hT hn hr.nxt.nxt.nxt.nxt 7 (by decide) 0 99 (by decide) (by decide) 0 zc5 zc6) gX6_partItem_X6_perhaps rfl rfl rfl ⟨rfl, by decide, by decide, rfl⟩ ⟨Nat.le_of_ble_eq_true rfl, Nat.le_of_ble_eq_true rfl⟩ ⟨Nat.zero_le _, Nat.zero_le _⟩ rfl (by decide) (ci := 5) 0 rfl rfl rfl rfl rfl (Nat.le_of_ble_eq_true rfl) dX6_partItem_65 (fun _ => rfl) (fun zu6 zk6 => ?_)
              refine j_top (nI (rV (nx t n (nx t n (nx t n (nx t n (nx t n r))))))) rfl ?_
              refine j_istore 68 cx [(4, .int (nI (rV (nx t n (nx t n (nx t n (nx t n (nx t n r)))))))), (3, .int (nI (rV (nx t n (nx t n (nx t n r)))))), (2, .int (nI (rV (nx t n r)))), (1, .int (nI (rK r))), (0, .ref o)] dX6_partItem_68 (by decide) rfl ?_
              refine j_aload_n 70 cx 4 dX6_partItem_70 rfl ?_
              refine j_get 71 cx 0 12 (T := TX6) (v := .int (bI (true))) (fun _ h => List.mem_cons_of_mem _ (List.mem_append_right _ (h))) (List.mem_of_getElem? (i := 3) rfl) (ci := 5) rfl (by decide) rfl rfl rfl dX6_partItem_71 ?_
              refine j_if_ne_T 74 cx 88 dX6_partItem_74 (by decide) (by decide) ?_
              have ze : (pIt t n r σ (nI (rK r))) = (false, (nx t n (nx t n (nx t n (nx t n (nx t n r))))), σ) := by simp [pIt, pIt1, pIt2, opR, hz9, zc2, of_decide_eq_true zc3, zc4, of_decide_eq_true zc5, zc6]
              exact fin () _ _ _ dX6_partItem_88 (by rw [ze] <;> rfl) trivial
          · skip
            refine j_bipush 59 cx 7 dX6_partItem_59 (by decide) ?_
            refine j_iconst 61 cx 0 dX6_partItem_61 (by decide) ?_
            refine j_bipush 62 cx 99 dX6_partItem_62 (by decide) ?_
            refine j_iconst 64 cx 0 dX6_partItem_64 (by decide) ?_
            refine j_top (nI 0) rfl ?_
            refine j_callV_i 65 cx 4 [0, 1] [.int 7, .int 0, .int 99, .int (nI 0)] (fun _ => wMO o am ik la (nI n) (nI (mT (rK (nx t n (nx t n (nx t n (nx t n r))))))) (nI (rB (nx t n (nx t n (nx t n (nx t n r)))))) (nI (rA (nx t n (nx t n (nx t n (nx t n r)))))) (nI (rV (nx t n (nx t n (nx t n (nx t n r)))))) false ++ ([((am 4), .inl (gI G, 120, .inl t))] ++ [((am 0), .inl (gI G, 51, .inl (mm σ)))])) (c_X6_perhaps_n (kl K) G o am ik la t n (nx t n (nx t n (nx t n (nx t n r)))) hT hn hr.nxt.nxt.nxt.nxt 7 (by decide) 0 99 (by decide) (by decide) 0 zc5) gX6_partItem_X6_perhaps rfl rfl rfl ⟨rfl, by decide, by decide, rfl⟩ ⟨Nat.le_of_ble_eq_true rfl, Nat.le_of_ble_eq_true rfl⟩ ⟨Nat.zero_le _, Nat.zero_le _⟩ rfl (by decide) (ci := 5) 0 rfl rfl rfl rfl rfl (Nat.le_of_ble_eq_true rfl) dX6_partItem_65 (fun _ => rfl) (fun zu7 zk7 => ?_)
            refine j_top (nI 0) rfl ?_
            refine j_istore 68 cx [(4, .int (nI 0)), (3, .int (nI (rV (nx t n (nx t n (nx t n r)))))), (2, .int (nI (rV (nx t n r)))), (1, .int (nI (rK r))), (0, .ref o)] dX6_partItem_68 (by decide) rfl ?_
            refine j_aload_n 70 cx 4 dX6_partItem_70 rfl ?_
            refine j_get 71 cx 0 12 (T := TX6) (v := .int (bI (false))) (fun _ h => List.mem_cons_of_mem _ (List.mem_append_right _ (h))) (List.mem_of_getElem? (i := 3) rfl) (ci := 5) rfl (by decide) rfl rfl rfl dX6_partItem_71 ?_
            refine j_if_ne_F 74 cx 88 dX6_partItem_74 (by decide) rfl ?_
            refine j_aload_n 77 cx 4 dX6_partItem_77 rfl ?_
            refine j_iload_n 78 cx 3 dX6_partItem_78 rfl ?_
            refine j_iload_n 79 cx 2 dX6_partItem_79 rfl ?_
            refine j_iload_n 80 cx 1 dX6_partItem_80 rfl ?_
            refine j_iload 81 cx 0 dX6_partItem_81 rfl ?_
            refine j_callV_i 83 cx 4 [0, 2] [.int (nI (rK r)), .int (nI (rV (nx t n r))), .int (nI (rV (nx t n (nx t n (nx t n r))))), .int (nI 0)] (fun _ => wMO o am ik la (nI n) (nI (mT (rK (nx t n (nx t n (nx t n (nx t n r))))))) (nI (rB (nx t n (nx t n (nx t n (nx t n r)))))) (nI (rA (nx t n (nx t n (nx t n (nx t n r)))))) (nI (rV (nx t n (nx t n (nx t n (nx t n r)))))) false ++ ([((am 4), .inl (gI G, 120, .inl t))] ++ [((am 0), .inl (gI G, 51, .inl (mm (addF σ (nI (rK r)) (nI (rV (nx t n (nx t n (nx t n r))))) (nI (rV (nx t n r))) (nI 0)))))])) (c_X6_comesAs (kl K) G o am ik la (nI n) (nI (mT (rK (nx t n (nx t n (nx t n (nx t n r))))))) (nI (rB (nx t n (nx t n (nx t n (nx t n r)))))) (nI (rA (nx t n (nx t n (nx t n (nx t n r)))))) (nI (rV (nx t n (nx t n (nx t n (nx t n r)))))) false σ (nI (rK r)) (nI (rV (nx t n r))) (nI (rV (nx t n (nx t n (nx t n r))))) (nI 0) hI.sz hz8) gX6_partItem_X6_comesAs rfl rfl rfl ⟨rfl, by decide, by decide, rfl⟩ ⟨Nat.le_of_ble_eq_true rfl, Nat.le_of_ble_eq_true rfl⟩ ⟨Nat.zero_le _, Nat.zero_le _⟩ rfl (by decide) (ci := 5) 0 rfl rfl rfl rfl rfl (Nat.le_of_ble_eq_true rfl) dX6_partItem_83 (fun _ => rfl) (fun zu8 zk8 => ?_)
            refine j_top (nI (szN σ)) rfl ?_
            refine j_istore 86 cx [(5, .int (nI (szN σ))), (4, .int (nI 0)), (3, .int (nI (rV (nx t n (nx t n (nx t n r)))))), (2, .int (nI (rV (nx t n r)))), (1, .int (nI (rK r))), (0, .ref o)] dX6_partItem_86 (by decide) rfl ?_
            have ze : (pIt t n r σ (nI (rK r))) = (true, (nx t n (nx t n (nx t n (nx t n r)))), (addF σ (nI (rK r)) (nI (rV (nx t n (nx t n (nx t n r))))) (nI (rV (nx t n r))) (nI 0))) := by simp [pIt, pIt1, pIt2, opR, hz9, zc2, of_decide_eq_true zc3, zc4, of_decide_eq_false zc5]
            exact fin () _ _ _ dX6_partItem_88 (by rw [ze] <;> rfl) trivial
        · skip
          refine j_iconst 49 cx 1 dX6_partItem_49 (by decide) ?_
          refine j_bipush 50 cx 99 dX6_partItem_50 (by decide) ?_
          refine j_bipush 52 cx 10 dX6_partItem_52 (by decide) ?_
          refine j_top (nI 10) rfl ?_
          refine j_callV_i 54 cx 4 [0, 1] [.int 6, .int 1, .int 99, .int (nI 10)] (fun _ => wMO o am ik la (nI n) (nI (mT (rK (nx t n (nx t n (nx t n r)))))) (nI (rB (nx t n (nx t n (nx t n r))))) (nI (rA (nx t n (nx t n (nx t n r))))) (nI (rV (nx t n (nx t n (nx t n r))))) true ++ ([((am 4), .inl (gI G, 120, .inl t))] ++ [((am 0), .inl (gI G, 51, .inl (mm σ)))])) (c_X6_perhaps_x (kl K) G o am ik la t n (nx t n (nx t n r)) hT hn hr.nxt.nxt 6 (by decide) 1 99 (by decide) (by decide) 10 zc3 zc4) gX6_partItem_X6_perhaps rfl rfl rfl ⟨rfl, by decide, by decide, rfl⟩ ⟨Nat.le_of_ble_eq_true rfl, Nat.le_of_ble_eq_true rfl⟩ ⟨Nat.zero_le _, Nat.zero_le _⟩ rfl (by decide) (ci := 5) 0 rfl rfl rfl rfl rfl (Nat.le_of_ble_eq_true rfl) dX6_partItem_54 (fun _ => rfl) (fun zu9 zk9 => ?_)
          refine j_top (nI (rV (nx t n (nx t n (nx t n r))))) rfl ?_
          refine j_istore_n 57 cx [(3, .int (nI (rV (nx t n (nx t n (nx t n r)))))), (2, .int (nI (rV (nx t n r)))), (1, .int (nI (rK r))), (0, .ref o)] dX6_partItem_57 (by decide) rfl ?_
          refine j_aload_n 58 cx 3 dX6_partItem_58 rfl ?_
          refine j_bipush 59 cx 7 dX6_partItem_59 (by decide) ?_
          refine j_iconst 61 cx 0 dX6_partItem_61 (by decide) ?_
          refine j_bipush 62 cx 99 dX6_partItem_62 (by decide) ?_
          refine j_iconst 64 cx 0 dX6_partItem_64 (by decide) ?_
          refine j_top (nI 0) rfl ?_
          refine j_callV_i 65 cx 4 [0, 1] [.int 7, .int 0, .int 99, .int (nI 0)] (fun _ => wMO o am ik la (nI n) (nI (mT (rK (nx t n (nx t n (nx t n r)))))) (nI (rB (nx t n (nx t n (nx t n r))))) (nI (rA (nx t n (nx t n (nx t n r))))) (nI (rV (nx t n (nx t n (nx t n r))))) true ++ ([((am 4), .inl (gI G, 120, .inl t))] ++ [((am 0), .inl (gI G, 51, .inl (mm σ)))])) (c_X6_perhaps_b (kl K) G o am ik la t n (nx t n (nx t n (nx t n r))) hT hn hr.nxt.nxt.nxt 7 (by decide) 0 99 (by decide) (by decide) 0) gX6_partItem_X6_perhaps rfl rfl rfl ⟨rfl, by decide, by decide, rfl⟩ ⟨Nat.le_of_ble_eq_true rfl, Nat.le_of_ble_eq_true rfl⟩ ⟨Nat.zero_le _, Nat.zero_le _⟩ rfl (by decide) (ci := 5) 0 rfl rfl rfl rfl rfl (Nat.le_of_ble_eq_true rfl) dX6_partItem_65 (fun _ => rfl) (fun zu10 zk10 => ?_)
          refine j_top (nI 0) rfl ?_
          refine j_istore 68 cx [(4, .int (nI 0)), (3, .int (nI (rV (nx t n (nx t n (nx t n r)))))), (2, .int (nI (rV (nx t n r)))), (1, .int (nI (rK r))), (0, .ref o)] dX6_partItem_68 (by decide) rfl ?_
          refine j_aload_n 70 cx 4 dX6_partItem_70 rfl ?_
          refine j_get 71 cx 0 12 (T := TX6) (v := .int (bI (true))) (fun _ h => List.mem_cons_of_mem _ (List.mem_append_right _ (h))) (List.mem_of_getElem? (i := 3) rfl) (ci := 5) rfl (by decide) rfl rfl rfl dX6_partItem_71 ?_
          refine j_if_ne_T 74 cx 88 dX6_partItem_74 (by decide) (by decide) ?_
          have ze : (pIt t n r σ (nI (rK r))) = (false, (nx t n (nx t n (nx t n r))), σ) := by simp [pIt, pIt1, pIt2, opR, hz9, zc2, of_decide_eq_true zc3, zc4]
          exact fin () _ _ _ dX6_partItem_88 (by rw [ze] <;> rfl) trivial
      · skip
        refine j_bipush 47 cx 6 dX6_partItem_47 (by decide) ?_
        refine j_iconst 49 cx 1 dX6_partItem_49 (by decide) ?_
        refine j_bipush 50 cx 99 dX6_partItem_50 (by decide) ?_
        refine j_bipush 52 cx 10 dX6_partItem_52 (by decide) ?_
        refine j_top (nI 10) rfl ?_
        refine j_callV_i 54 cx 4 [0, 1] [.int 6, .int 1, .int 99, .int (nI 10)] (fun _ => wMO o am ik la (nI n) (nI (mT (rK (nx t n (nx t n r))))) (nI (rB (nx t n (nx t n r)))) (nI (rA (nx t n (nx t n r)))) (nI (rV (nx t n (nx t n r)))) false ++ ([((am 4), .inl (gI G, 120, .inl t))] ++ [((am 0), .inl (gI G, 51, .inl (mm σ)))])) (c_X6_perhaps_n (kl K) G o am ik la t n (nx t n (nx t n r)) hT hn hr.nxt.nxt 6 (by decide) 1 99 (by decide) (by decide) 10 zc3) gX6_partItem_X6_perhaps rfl rfl rfl ⟨rfl, by decide, by decide, rfl⟩ ⟨Nat.le_of_ble_eq_true rfl, Nat.le_of_ble_eq_true rfl⟩ ⟨Nat.zero_le _, Nat.zero_le _⟩ rfl (by decide) (ci := 5) 0 rfl rfl rfl rfl rfl (Nat.le_of_ble_eq_true rfl) dX6_partItem_54 (fun _ => rfl) (fun zu11 zk11 => ?_)
        refine j_top (nI 10) rfl ?_
        refine j_istore_n 57 cx [(3, .int (nI 10)), (2, .int (nI (rV (nx t n r)))), (1, .int (nI (rK r))), (0, .ref o)] dX6_partItem_57 (by decide) rfl ?_
        refine j_aload_n 58 cx 3 dX6_partItem_58 rfl ?_
        rcases bcase (decide (rK (nx t n (nx t n r)) = 7)) with zc7 | zc7
        · skip
          refine j_bipush 59 cx 7 dX6_partItem_59 (by decide) ?_
          rcases bcase (nOk (nx t n (nx t n (nx t n r))) 0 99) with zc8 | zc8
          · skip
            refine j_iconst 61 cx 0 dX6_partItem_61 (by decide) ?_
            refine j_bipush 62 cx 99 dX6_partItem_62 (by decide) ?_
            refine j_iconst 64 cx 0 dX6_partItem_64 (by decide) ?_
            refine j_top (nI 0) rfl ?_
            refine j_callV_i 65 cx 4 [0, 1] [.int 7, .int 0, .int 99, .int (nI 0)] (fun _ => wMO o am ik la (nI n) (nI (mT (rK (nx t n (nx t n (nx t n (nx t n r))))))) (nI (rB (nx t n (nx t n (nx t n (nx t n r)))))) (nI (rA (nx t n (nx t n (nx t n (nx t n r)))))) (nI (rV (nx t n (nx t n (nx t n (nx t n r)))))) false ++ ([((am 4), .inl (gI G, 120, .inl t))] ++ [((am 0), .inl (gI G, 51, .inl (mm σ)))])) (c_X6_perhaps_y (kl K) G o am ik la t n (nx t n (nx t n r)) hT hn hr.nxt.nxt 7 (by decide) 0 99 (by decide) (by decide) 0 zc7 zc8) gX6_partItem_X6_perhaps rfl rfl rfl ⟨rfl, by decide, by decide, rfl⟩ ⟨Nat.le_of_ble_eq_true rfl, Nat.le_of_ble_eq_true rfl⟩ ⟨Nat.zero_le _, Nat.zero_le _⟩ rfl (by decide) (ci := 5) 0 rfl rfl rfl rfl rfl (Nat.le_of_ble_eq_true rfl) dX6_partItem_65 (fun _ => rfl) (fun zu12 zk12 => ?_)
            have hvzn4 := nOk_t zc8
            refine j_top (nI (rV (nx t n (nx t n (nx t n r))))) rfl ?_
            refine j_istore 68 cx [(4, .int (nI (rV (nx t n (nx t n (nx t n r)))))), (3, .int (nI 10)), (2, .int (nI (rV (nx t n r)))), (1, .int (nI (rK r))), (0, .ref o)] dX6_partItem_68 (by decide) rfl ?_
            refine j_aload_n 70 cx 4 dX6_partItem_70 rfl ?_
            refine j_get 71 cx 0 12 (T := TX6) (v := .int (bI (false))) (fun _ h => List.mem_cons_of_mem _ (List.mem_append_right _ (h))) (List.mem_of_getElem? (i := 3) rfl) (ci := 5) rfl (by decide) rfl rfl rfl dX6_partItem_71 ?_
            refine j_if_ne_F 74 cx 88 dX6_partItem_74 (by decide) rfl ?_
            refine j_aload_n 77 cx 4 dX6_partItem_77 rfl ?_
            refine j_iload_n 78 cx 3 dX6_partItem_78 rfl ?_
            refine j_iload_n 79 cx 2 dX6_partItem_79 rfl ?_
            refine j_iload_n 80 cx 1 dX6_partItem_80 rfl ?_
            refine j_iload 81 cx 0 dX6_partItem_81 rfl ?_
            refine j_callV_i 83 cx 4 [0, 2] [.int (nI (rK r)), .int (nI (rV (nx t n r))), .int (nI 10), .int (nI (rV (nx t n (nx t n (nx t n r)))))] (fun _ => wMO o am ik la (nI n) (nI (mT (rK (nx t n (nx t n (nx t n (nx t n r))))))) (nI (rB (nx t n (nx t n (nx t n (nx t n r)))))) (nI (rA (nx t n (nx t n (nx t n (nx t n r)))))) (nI (rV (nx t n (nx t n (nx t n (nx t n r)))))) false ++ ([((am 4), .inl (gI G, 120, .inl t))] ++ [((am 0), .inl (gI G, 51, .inl (mm (addF σ (nI (rK r)) (nI 10) (nI (rV (nx t n r))) (nI (rV (nx t n (nx t n (nx t n r)))))))))])) (c_X6_comesAs (kl K) G o am ik la (nI n) (nI (mT (rK (nx t n (nx t n (nx t n (nx t n r))))))) (nI (rB (nx t n (nx t n (nx t n (nx t n r)))))) (nI (rA (nx t n (nx t n (nx t n (nx t n r)))))) (nI (rV (nx t n (nx t n (nx t n (nx t n r)))))) false σ (nI (rK r)) (nI (rV (nx t n r))) (nI 10) (nI (rV (nx t n (nx t n (nx t n r))))) hI.sz hz8) gX6_partItem_X6_comesAs rfl rfl rfl ⟨rfl, by decide, by decide, rfl⟩ ⟨Nat.le_of_ble_eq_true rfl, Nat.le_of_ble_eq_true rfl⟩ ⟨Nat.zero_le _, Nat.zero_le _⟩ rfl (by decide) (ci := 5) 0 rfl rfl rfl rfl rfl (Nat.le_of_ble_eq_true rfl) dX6_partItem_83 (fun _ => rfl) (fun zu13 zk13 => ?_)
            refine j_top (nI (szN σ)) rfl ?_
            refine j_istore 86 cx [(5, .int (nI (szN σ))), (4, .int (nI (rV (nx t n (nx t n (nx t n r)))))), (3, .int (nI 10)), (2, .int (nI (rV (nx t n r)))), (1, .int (nI (rK r))), (0, .ref o)] dX6_partItem_86 (by decide) rfl ?_
            have ze : (pIt t n r σ (nI (rK r))) = (true, (nx t n (nx t n (nx t n (nx t n r)))), (addF σ (nI (rK r)) (nI 10) (nI (rV (nx t n r))) (nI (rV (nx t n (nx t n (nx t n r))))))) := by simp [pIt, pIt1, pIt2, opR, hz9, zc2, of_decide_eq_false zc3, of_decide_eq_true zc7, zc8]
            exact fin () _ _ _ dX6_partItem_88 (by rw [ze] <;> rfl) trivial
          · skip
            refine j_iconst 61 cx 0 dX6_partItem_61 (by decide) ?_
            refine j_bipush 62 cx 99 dX6_partItem_62 (by decide) ?_
            refine j_iconst 64 cx 0 dX6_partItem_64 (by decide) ?_
            refine j_top (nI 0) rfl ?_
            refine j_callV_i 65 cx 4 [0, 1] [.int 7, .int 0, .int 99, .int (nI 0)] (fun _ => wMO o am ik la (nI n) (nI (mT (rK (nx t n (nx t n (nx t n r)))))) (nI (rB (nx t n (nx t n (nx t n r))))) (nI (rA (nx t n (nx t n (nx t n r))))) (nI (rV (nx t n (nx t n (nx t n r))))) true ++ ([((am 4), .inl (gI G, 120, .inl t))] ++ [((am 0), .inl (gI G, 51, .inl (mm σ)))])) (c_X6_perhaps_x (kl K) G o am ik la t n (nx t n (nx t n r)) hT hn hr.nxt.nxt 7 (by decide) 0 99 (by decide) (by decide) 0 zc7 zc8) gX6_partItem_X6_perhaps rfl rfl rfl ⟨rfl, by decide, by decide, rfl⟩ ⟨Nat.le_of_ble_eq_true rfl, Nat.le_of_ble_eq_true rfl⟩ ⟨Nat.zero_le _, Nat.zero_le _⟩ rfl (by decide) (ci := 5) 0 rfl rfl rfl rfl rfl (Nat.le_of_ble_eq_true rfl) dX6_partItem_65 (fun _ => rfl) (fun zu14 zk14 => ?_)
            refine j_top (nI (rV (nx t n (nx t n (nx t n r))))) rfl ?_
            refine j_istore 68 cx [(4, .int (nI (rV (nx t n (nx t n (nx t n r)))))), (3, .int (nI 10)), (2, .int (nI (rV (nx t n r)))), (1, .int (nI (rK r))), (0, .ref o)] dX6_partItem_68 (by decide) rfl ?_
            refine j_aload_n 70 cx 4 dX6_partItem_70 rfl ?_
            refine j_get 71 cx 0 12 (T := TX6) (v := .int (bI (true))) (fun _ h => List.mem_cons_of_mem _ (List.mem_append_right _ (h))) (List.mem_of_getElem? (i := 3) rfl) (ci := 5) rfl (by decide) rfl rfl rfl dX6_partItem_71 ?_
            refine j_if_ne_T 74 cx 88 dX6_partItem_74 (by decide) (by decide) ?_
            have ze : (pIt t n r σ (nI (rK r))) = (false, (nx t n (nx t n (nx t n r))), σ) := by simp [pIt, pIt1, pIt2, opR, hz9, zc2, of_decide_eq_false zc3, of_decide_eq_true zc7, zc8]
            exact fin () _ _ _ dX6_partItem_88 (by rw [ze] <;> rfl) trivial
        · skip
          refine j_bipush 59 cx 7 dX6_partItem_59 (by decide) ?_
          refine j_iconst 61 cx 0 dX6_partItem_61 (by decide) ?_
          refine j_bipush 62 cx 99 dX6_partItem_62 (by decide) ?_
          refine j_iconst 64 cx 0 dX6_partItem_64 (by decide) ?_
          refine j_top (nI 0) rfl ?_
          refine j_callV_i 65 cx 4 [0, 1] [.int 7, .int 0, .int 99, .int (nI 0)] (fun _ => wMO o am ik la (nI n) (nI (mT (rK (nx t n (nx t n r))))) (nI (rB (nx t n (nx t n r)))) (nI (rA (nx t n (nx t n r)))) (nI (rV (nx t n (nx t n r)))) false ++ ([((am 4), .inl (gI G, 120, .inl t))] ++ [((am 0), .inl (gI G, 51, .inl (mm σ)))])) (c_X6_perhaps_n (kl K) G o am ik la t n (nx t n (nx t n r)) hT hn hr.nxt.nxt 7 (by decide) 0 99 (by decide) (by decide) 0 zc7) gX6_partItem_X6_perhaps rfl rfl rfl ⟨rfl, by decide, by decide, rfl⟩ ⟨Nat.le_of_ble_eq_true rfl, Nat.le_of_ble_eq_true rfl⟩ ⟨Nat.zero_le _, Nat.zero_le _⟩ rfl (by decide) (ci := 5) 0 rfl rfl rfl rfl rfl (Nat.le_of_ble_eq_true rfl) dX6_partItem_65 (fun _ => rfl) (fun zu15 zk15 => ?_)
          refine j_top (nI 0) rfl ?_
          refine j_istore 68 cx [(4, .int (nI 0)), (3, .int (nI 10)), (2, .int (nI (rV (nx t n r)))), (1, .int (nI (rK r))), (0, .ref o)] dX6_partItem_68 (by decide) rfl ?_
          refine j_aload_n 70 cx 4 dX6_partItem_70 rfl ?_
          refine j_get 71 cx 0 12 (T := TX6) (v := .int (bI (false))) (fun _ h => List.mem_cons_of_mem _ (List.mem_append_right _ (h))) (List.mem_of_getElem? (i := 3) rfl) (ci := 5) rfl (by decide) rfl rfl rfl dX6_partItem_71 ?_
          refine j_if_ne_F 74 cx 88 dX6_partItem_74 (by decide) rfl ?_
          refine j_aload_n 77 cx 4 dX6_partItem_77 rfl ?_
          refine j_iload_n 78 cx 3 dX6_partItem_78 rfl ?_
          refine j_iload_n 79 cx 2 dX6_partItem_79 rfl ?_
          refine j_iload_n 80 cx 1 dX6_partItem_80 rfl ?_
          refine j_iload 81 cx 0 dX6_partItem_81 rfl ?_
          refine j_callV_i 83 cx 4 [0, 2] [.int (nI (rK r)), .int (nI (rV (nx t n r))), .int (nI 10), .int (nI 0)] (fun _ => wMO o am ik la (nI n) (nI (mT (rK (nx t n (nx t n r))))) (nI (rB (nx t n (nx t n r)))) (nI (rA (nx t n (nx t n r)))) (nI (rV (nx t n (nx t n r)))) false ++ ([((am 4), .inl (gI G, 120, .inl t))] ++ [((am 0), .inl (gI G, 51, .inl (mm (addF σ (nI (rK r)) (nI 10) (nI (rV (nx t n r))) (nI 0)))))])) (c_X6_comesAs (kl K) G o am ik la (nI n) (nI (mT (rK (nx t n (nx t n r))))) (nI (rB (nx t n (nx t n r)))) (nI (rA (nx t n (nx t n r)))) (nI (rV (nx t n (nx t n r)))) false σ (nI (rK r)) (nI (rV (nx t n r))) (nI 10) (nI 0) hI.sz hz8) gX6_partItem_X6_comesAs rfl rfl rfl ⟨rfl, by decide, by decide, rfl⟩ ⟨Nat.le_of_ble_eq_true rfl, Nat.le_of_ble_eq_true rfl⟩ ⟨Nat.zero_le _, Nat.zero_le _⟩ rfl (by decide) (ci := 5) 0 rfl rfl rfl rfl rfl (Nat.le_of_ble_eq_true rfl) dX6_partItem_83 (fun _ => rfl) (fun zu16 zk16 => ?_)
          refine j_top (nI (szN σ)) rfl ?_
          refine j_istore 86 cx [(5, .int (nI (szN σ))), (4, .int (nI 0)), (3, .int (nI 10)), (2, .int (nI (rV (nx t n r)))), (1, .int (nI (rK r))), (0, .ref o)] dX6_partItem_86 (by decide) rfl ?_
          have ze : (pIt t n r σ (nI (rK r))) = (true, (nx t n (nx t n r)), (addF σ (nI (rK r)) (nI 10) (nI (rV (nx t n r))) (nI 0))) := by simp [pIt, pIt1, pIt2, opR, hz9, zc2, of_decide_eq_false zc3, of_decide_eq_false zc7]
          exact fin () _ _ _ dX6_partItem_88 (by rw [ze] <;> rfl) trivial
    · skip
      refine j_sipush 39 cx 9999 dX6_partItem_39 (by decide) ?_
      refine j_callV_i 42 cx 2 [0, 1] [.int 0, .int 9999] (fun _ => wMO o am ik la (nI n) (nI (mT (rK (nx t n r)))) (nI (rB (nx t n r))) (nI (rA (nx t n r))) (nI (rV (nx t n r))) true ++ ([((am 4), .inl (gI G, 120, .inl t))] ++ [((am 0), .inl (gI G, 51, .inl (mm σ)))])) (c_X6_number_f (kl K) G o am ik la t n (nx t n r) hT hn hr.nxt 0 9999 (by decide) (by decide) zc2) gX6_partItem_X6_number rfl rfl rfl ⟨rfl, by decide, by decide, rfl⟩ ⟨Nat.le_of_ble_eq_true rfl, Nat.le_of_ble_eq_true rfl⟩ ⟨Nat.zero_le _, Nat.zero_le _⟩ rfl (by decide) (ci := 5) 0 rfl rfl rfl rfl rfl (Nat.le_of_ble_eq_true rfl) dX6_partItem_42 (fun _ => rfl) (fun zu17 zk17 => ?_)
      refine j_top (nI (rV (nx t n r))) rfl ?_
      refine j_istore_n 45 cx [(2, .int (nI (rV (nx t n r)))), (1, .int (nI (rK r))), (0, .ref o)] dX6_partItem_45 (by decide) rfl ?_
      refine j_aload_n 46 cx 2 dX6_partItem_46 rfl ?_
      refine j_bipush 47 cx 6 dX6_partItem_47 (by decide) ?_
      refine j_iconst 49 cx 1 dX6_partItem_49 (by decide) ?_
      refine j_bipush 50 cx 99 dX6_partItem_50 (by decide) ?_
      refine j_bipush 52 cx 10 dX6_partItem_52 (by decide) ?_
      refine j_top (nI 10) rfl ?_
      refine j_callV_i 54 cx 4 [0, 1] [.int 6, .int 1, .int 99, .int (nI 10)] (fun _ => wMO o am ik la (nI n) (nI (mT (rK (nx t n r)))) (nI (rB (nx t n r))) (nI (rA (nx t n r))) (nI (rV (nx t n r))) true ++ ([((am 4), .inl (gI G, 120, .inl t))] ++ [((am 0), .inl (gI G, 51, .inl (mm σ)))])) (c_X6_perhaps_b (kl K) G o am ik la t n (nx t n r) hT hn hr.nxt 6 (by decide) 1 99 (by decide) (by decide) 10) gX6_partItem_X6_perhaps rfl rfl rfl ⟨rfl, by decide, by decide, rfl⟩ ⟨Nat.le_of_ble_eq_true rfl, Nat.le_of_ble_eq_true rfl⟩ ⟨Nat.zero_le _, Nat.zero_le _⟩ rfl (by decide) (ci := 5) 0 rfl rfl rfl rfl rfl (Nat.le_of_ble_eq_true rfl) dX6_partItem_54 (fun _ => rfl) (fun zu18 zk18 => ?_)
      refine j_top (nI 10) rfl ?_
      refine j_istore_n 57 cx [(3, .int (nI 10)), (2, .int (nI (rV (nx t n r)))), (1, .int (nI (rK r))), (0, .ref o)] dX6_partItem_57 (by decide) rfl ?_
      refine j_aload_n 58 cx 3 dX6_partItem_58 rfl ?_
      refine j_bipush 59 cx 7 dX6_partItem_59 (by decide) ?_
      refine j_iconst 61 cx 0 dX6_partItem_61 (by decide) ?_
      refine j_bipush 62 cx 99 dX6_partItem_62 (by decide) ?_
      refine j_iconst 64 cx 0 dX6_partItem_64 (by decide) ?_
      refine j_top (nI 0) rfl ?_
      refine j_callV_i 65 cx 4 [0, 1] [.int 7, .int 0, .int 99, .int (nI 0)] (fun _ => wMO o am ik la (nI n) (nI (mT (rK (nx t n r)))) (nI (rB (nx t n r))) (nI (rA (nx t n r))) (nI (rV (nx t n r))) true ++ ([((am 4), .inl (gI G, 120, .inl t))] ++ [((am 0), .inl (gI G, 51, .inl (mm σ)))])) (c_X6_perhaps_b (kl K) G o am ik la t n (nx t n r) hT hn hr.nxt 7 (by decide) 0 99 (by decide) (by decide) 0) gX6_partItem_X6_perhaps rfl rfl rfl ⟨rfl, by decide, by decide, rfl⟩ ⟨Nat.le_of_ble_eq_true rfl, Nat.le_of_ble_eq_true rfl⟩ ⟨Nat.zero_le _, Nat.zero_le _⟩ rfl (by decide) (ci := 5) 0 rfl rfl rfl rfl rfl (Nat.le_of_ble_eq_true rfl) dX6_partItem_65 (fun _ => rfl) (fun zu19 zk19 => ?_)
      refine j_top (nI 0) rfl ?_
      refine j_istore 68 cx [(4, .int (nI 0)), (3, .int (nI 10)), (2, .int (nI (rV (nx t n r)))), (1, .int (nI (rK r))), (0, .ref o)] dX6_partItem_68 (by decide) rfl ?_
      refine j_aload_n 70 cx 4 dX6_partItem_70 rfl ?_
      refine j_get 71 cx 0 12 (T := TX6) (v := .int (bI (true))) (fun _ h => List.mem_cons_of_mem _ (List.mem_append_right _ (h))) (List.mem_of_getElem? (i := 3) rfl) (ci := 5) rfl (by decide) rfl rfl rfl dX6_partItem_71 ?_
      refine j_if_ne_T 74 cx 88 dX6_partItem_74 (by decide) (by decide) ?_
      have ze : (pIt t n r σ (nI (rK r))) = (false, (nx t n r), σ) := by simp [pIt, pIt1, pIt2, opR, hz9, zc2]
      exact fin () _ _ _ dX6_partItem_88 (by rw [ze] <;> rfl) trivial
  · skip
    have hz9 : szN σ = 8 := (nI_eq (b := 8) (by omega) (by omega)).mp zc1
    refine j_iconst 17 cx 1 dX6_partItem_17 (by decide) ?_
    refine j_goto 18 cx 22 dX6_partItem_18 (by decide) ?_
    refine j_put 22 cx 0 12 (wMO o am ik la (nI n) (nI (mT (rK r))) (nI (rB r)) (nI (rA r)) (nI (rV r)) true ++ ([((am 4), .inl (gI G, 120, .inl t))] ++ [((am 0), .inl (gI G, 51, .inl (mm σ)))])) (T := TX6) (ty0 := tyX6) (fun _ h => List.mem_cons_of_mem _ (List.mem_append_right _ (h))) (List.mem_of_getElem? (i := 3) rfl) (ci := 5) rfl (by decide) rfl tyX6_ok nmX6 rfl rfl rfl rfl (Nat.le_of_ble_eq_true rfl) rfl dX6_partItem_22 ?_
    refine j_aload_n 25 cx 1 dX6_partItem_25 rfl ?_
    refine j_get 26 cx 0 12 (T := TX6) (v := .int (bI (true))) (fun _ h => List.mem_cons_of_mem _ (List.mem_append_right _ (h))) (List.mem_of_getElem? (i := 3) rfl) (ci := 5) rfl (by decide) rfl rfl rfl dX6_partItem_26 ?_
    refine j_if_eq_F 29 cx 33 dX6_partItem_29 (by decide) (by decide) ?_
    have ze : (pIt t n r σ (nI (rK r))) = (false, r, σ) := by simp [pIt, pIt1, pIt2, opR, hz9]
    exact fin () _ _ _ dX6_partItem_32 (by rw [ze] <;> rfl) trivial
set_option maxRecDepth 100000 in
set_option maxHeartbeats 4000000 in
theorem c_X6_item (l : Launch) (G : pG) (o : Nat) (am : Nat → Nat) (ik : Bool) (la : Int32) (t : TF) (n : Nat) (r : RT) (hT : okT t) (hn : n ≤ 120) (hr : RW t n r) (σ : Nu) (hI : Inv σ)  : KV l G yX6_item wsX6_item ({ frames := 6, cells := 0, slots := 0, locals := 138 } : Room) [.ref o] (wMO o am ik la (nI n) (nI (mT (rK r))) (nI (rB r)) (nI (rA r)) (nI (rV r)) false ++ ([((am 4), .inl (gI G, 120, .inl t))] ++ [((am 0), .inl (gI G, 51, .inl (mm σ)))])) (S := Nu) (fun u => (iIt t n r σ).1 = true → u = (iIt t n r σ).2.2) (fun u => wMO o am ik la (nI n) (nI (mT (rK (iIt t n r σ).2.1))) (nI (rB (iIt t n r σ).2.1)) (nI (rA (iIt t n r σ).2.1)) (nI (rV (iIt t n r σ).2.1)) (!(iIt t n r σ).1) ++ ([((am 4), .inl (gI G, 120, .inl t))] ++ [((am 0), .inl (gI G, 51, .inl (mm u)))])) := by
  have h8 := hI.sz8
  refine kv_of [(0, .ref o)] (own := RX6) (cc := cX6_item) (nL := 3) (by decide +kernel) rfl rfl (Nat.le_of_ble_eq_true rfl) rfl (fun _ => rfl) (fun K cx fin => ?_)
  refine j_aload_n 0 cx 0 dX6_item_0 rfl ?_
  rcases bcase (decide (rK r ≤ 5)) with zc1 | zc1
  · skip
    refine j_get 1 cx 0 8 (T := TX6) (v := .int (nI (mT (rK r)))) (fun _ h => List.mem_cons_of_mem _ (List.mem_append_right _ (h))) (List.mem_of_getElem? (i := 1) rfl) (ci := 5) rfl (by decide) rfl rfl rfl dX6_item_1 ?_
    refine j_iconst 4 cx 5 dX6_item_4 (by decide) ?_
    refine j_icmp_gt_F 5 cx 15 dX6_item_5 (by decide) (mT_gt (of_decide_eq_true zc1)) ?_
    refine j_aload_n 8 cx 0 dX6_item_8 rfl ?_
    refine j_callV_v 9 cx 0 [0, 1, 2] [] (fun _ => wMO o am ik la (nI n) (nI (mT (rK (pIt t n r σ (nI (rK r))).2.1))) (nI (rB (pIt t n r σ (nI (rK r))).2.1)) (nI (rA (pIt t n r σ (nI (rK r))).2.1)) (nI (rV (pIt t n r σ (nI (rK r))).2.1)) (!(pIt t n r σ (nI (rK r))).1) ++ ([((am 4), .inl (gI G, 120, .inl t))] ++ [((am 0), .inl (gI G, 51, .inl (mm (pIt t n r σ (nI (rK r))).2.2)))])) (c_X6_partItem (kl K) G o am ik la false t n r hT hn hr σ hI (of_decide_eq_true zc1)) gX6_item_X6_partItem rfl rfl rfl ⟨rfl, by decide, by decide, rfl⟩ ⟨Nat.le_of_ble_eq_true rfl, Nat.le_of_ble_eq_true rfl⟩ ⟨Nat.zero_le _, Nat.zero_le _⟩ rfl (by decide) (ci := 5) 0 rfl rfl rfl rfl rfl (Nat.le_of_ble_eq_true rfl) dX6_item_9 (fun _ => rfl) (fun zu1 zk1 => ?_)
    refine j_goto 12 cx 109 dX6_item_12 (by decide) ?_
    have hd0 := of_decide_eq_true zc1
    have ze : (iIt t n r σ) = (pIt t n r σ (nI (rK r))) := by unfold iIt; rw [if_pos hd0]
    exact fin ((pIt t n r σ (nI (rK r))).2.2) _ _ _ dX6_item_109 (by rw [ze] <;> rfl) (fun _ => by rw [ze])
  · skip
    refine j_get 1 cx 0 8 (T := TX6) (v := .int (nI (mT (rK r)))) (fun _ h => List.mem_cons_of_mem _ (List.mem_append_right _ (h))) (List.mem_of_getElem? (i := 1) rfl) (ci := 5) rfl (by decide) rfl rfl rfl dX6_item_1 ?_
    refine j_iconst 4 cx 5 dX6_item_4 (by decide) ?_
    refine j_icmp_gt_T 5 cx 15 dX6_item_5 (by decide) (mT_gt' (of_decide_eq_false zc1) hr.kk) ?_
    refine j_aload_n 15 cx 0 dX6_item_15 rfl ?_
    rcases bcase (decide (rK r = 8)) with zc2 | zc2
    · skip
      refine j_get 16 cx 0 8 (T := TX6) (v := .int (nI (mT (rK r)))) (fun _ h => List.mem_cons_of_mem _ (List.mem_append_right _ (h))) (List.mem_of_getElem? (i := 1) rfl) (ci := 5) rfl (by decide) rfl rfl rfl dX6_item_16 ?_
      refine j_bipush 19 cx 8 dX6_item_19 (by decide) ?_
      refine j_icmp_eq_T 21 cx 33 dX6_item_21 (by decide) (mT_w (of_decide_eq_true zc2) (by decide)) ?_
      refine j_aload_n 33 cx 0 dX6_item_33 rfl ?_
      refine j_get 34 cx 0 8 (T := TX6) (v := .int (nI (mT (rK r)))) (fun _ h => List.mem_cons_of_mem _ (List.mem_append_right _ (h))) (List.mem_of_getElem? (i := 1) rfl) (ci := 5) rfl (by decide) rfl rfl rfl dX6_item_34 ?_
      refine j_bipush 37 cx 8 dX6_item_37 (by decide) ?_
      refine j_icmp_ne_F 39 cx 46 dX6_item_39 (by decide) (mT_w (of_decide_eq_true zc2) (by decide)) ?_
      refine j_iconst 42 cx 1 dX6_item_42 (by decide) ?_
      refine j_goto 43 cx 47 dX6_item_43 (by decide) ?_
      refine j_istore_n 47 cx [(1, .int 1), (0, .ref o)] dX6_item_47 (by decide) rfl ?_
      refine j_aload_n 48 cx 1 dX6_item_48 rfl ?_
      refine j_callV_v 49 cx 0 [0, 1] [] (fun _ => wMO o am ik la (nI n) (nI (mT (rK (nx t n r)))) (nI (rB (nx t n r))) (nI (rA (nx t n r))) (nI (rV (nx t n r))) false ++ ([((am 4), .inl (gI G, 120, .inl t))] ++ [((am 0), .inl (gI G, 51, .inl (mm σ)))])) (c_X6_reads (kl K) G o am ik la (nI (mT (rK r))) (nI (rB r)) (nI (rV r)) false t n (rA r) hT hn hr.an) gX6_item_X6_reads rfl rfl rfl ⟨rfl, by decide, by decide, rfl⟩ ⟨Nat.le_of_ble_eq_true rfl, Nat.le_of_ble_eq_true rfl⟩ ⟨Nat.zero_le _, Nat.zero_le _⟩ rfl (by decide) (ci := 5) 0 rfl rfl rfl rfl rfl (Nat.le_of_ble_eq_true rfl) dX6_item_49 (fun _ => rfl) (fun zu2 zk2 => ?_)
      refine j_aload_n 52 cx 1 dX6_item_52 rfl ?_
      refine j_iconst 53 cx 0 dX6_item_53 (by decide) ?_
      rcases bcase (nOk (nx t n r) 0 6) with zc3 | zc3
      · skip
        refine j_bipush 54 cx 6 dX6_item_54 (by decide) ?_
        refine j_callV_i 56 cx 2 [0, 1] [.int 0, .int 6] (fun _ => wMO o am ik la (nI n) (nI (mT (rK (nx t n (nx t n r))))) (nI (rB (nx t n (nx t n r)))) (nI (rA (nx t n (nx t n r)))) (nI (rV (nx t n (nx t n r)))) false ++ ([((am 4), .inl (gI G, 120, .inl t))] ++ [((am 0), .inl (gI G, 51, .inl (mm σ)))])) (c_X6_number_t (kl K) G o am ik la t n (nx t n r) hT hn hr.nxt 0 6 (by decide) (by decide) zc3) gX6_item_X6_number rfl rfl rfl ⟨rfl, by decide, by decide, rfl⟩ ⟨Nat.le_of_ble_eq_true rfl, Nat.le_of_ble_eq_true rfl⟩ ⟨Nat.zero_le _, Nat.zero_le _⟩ rfl (by decide) (ci := 5) 0 rfl rfl rfl rfl rfl (Nat.le_of_ble_eq_true rfl) dX6_item_56 (fun _ => rfl) (fun zu3 zk3 => ?_)
        have hvzn1 := nOk_t zc3
        refine j_top (nI (rV (nx t n r))) rfl ?_
        refine j_istore_n 59 cx [(2, .int (nI (rV (nx t n r)))), (1, .int 1), (0, .ref o)] dX6_item_59 (by decide) rfl ?_
        refine j_aload_n 60 cx 2 dX6_item_60 rfl ?_
        refine j_get 61 cx 0 12 (T := TX6) (v := .int (bI (false))) (fun _ h => List.mem_cons_of_mem _ (List.mem_append_right _ (h))) (List.mem_of_getElem? (i := 2) rfl) (ci := 5) rfl (by decide) rfl rfl rfl dX6_item_61 ?_
        refine j_if_ne_F 64 cx 76 dX6_item_64 (by decide) rfl ?_
        refine j_aload_n 67 cx 2 dX6_item_67 rfl ?_
        refine j_get 68 cx 0 0 (T := TX6) (v := .ref ((am 0))) (fun _ h => List.mem_cons_of_mem _ (List.mem_append_right _ (h))) (List.mem_of_getElem? (i := 3) rfl) (ci := 5) rfl (by decide) rfl rfl rfl dX6_item_68 ?_
        refine j_iconst 71 cx 4 dX6_item_71 (by decide) ?_
        refine j_iload_n 72 cx 0 dX6_item_72 rfl ?_
        refine j_iadd 73 cx dX6_item_73 ?_
        refine j_top (nI (4 + (rV (nx t n r)))) (nI_add 4 (rV (nx t n r))) ?_
        refine j_iload_n 74 cx 1 dX6_item_74 rfl ?_
        refine j_iast 75 cx 2 (4 + (rV (nx t n r))) (wMO o am ik la (nI n) (nI (mT (rK (nx t n (nx t n r))))) (nI (rB (nx t n (nx t n r)))) (nI (rA (nx t n (nx t n r)))) (nI (rV (nx t n (nx t n r)))) false ++ ([((am 4), .inl (gI G, 120, .inl t))] ++ [((am 0), .inl (gI G, 51, .inl (upd (mm σ) (4 + (rV (nx t n r))) 1)))])) rfl rfl (by omega) (by decide) rfl dX6_item_75 ?_
        refine j_ws (wMO o am ik la (nI n) (nI (mT (rK (nx t n (nx t n r))))) (nI (rB (nx t n (nx t n r)))) (nI (rA (nx t n (nx t n r)))) (nI (rV (nx t n (nx t n r)))) false ++ ([((am 4), .inl (gI G, 120, .inl t))] ++ [((am 0), .inl (gI G, 51, .inl (mm (up2 σ 1 (rV (nx t n r)) 1))))])) (congrArg (fun zf : Nat → Int32 => wMO o am ik la (nI n) (nI (mT (rK (nx t n (nx t n r))))) (nI (rB (nx t n (nx t n r)))) (nI (rA (nx t n (nx t n r)))) (nI (rV (nx t n (nx t n r)))) false ++ ([((am 4), .inl (gI G, 120, .inl t))] ++ [((am 0), .inl (gI G, 51, .inl zf))])) (mm_ufr _ _ (by omega))) ?_
        refine j_goto 76 cx 109 dX6_item_76 (by decide) ?_
        have hd0 := of_decide_eq_false zc1
        have hd1 := of_decide_eq_true zc2
        have ze : (iIt t n r σ) = (true, (nx t n (nx t n r)), (up2 σ 1 (rV (nx t n r)) 1)) := by unfold iIt; rw [if_neg hd0, if_pos hd1]; unfold dIt; rw [if_pos zc3]
        exact fin (up2 σ 1 (rV (nx t n r)) 1) _ _ _ dX6_item_109 (by rw [ze] <;> rfl) (fun _ => by rw [ze])
      · skip
        refine j_bipush 54 cx 6 dX6_item_54 (by decide) ?_
        refine j_callV_i 56 cx 2 [0, 1] [.int 0, .int 6] (fun _ => wMO o am ik la (nI n) (nI (mT (rK (nx t n r)))) (nI (rB (nx t n r))) (nI (rA (nx t n r))) (nI (rV (nx t n r))) true ++ ([((am 4), .inl (gI G, 120, .inl t))] ++ [((am 0), .inl (gI G, 51, .inl (mm σ)))])) (c_X6_number_f (kl K) G o am ik la t n (nx t n r) hT hn hr.nxt 0 6 (by decide) (by decide) zc3) gX6_item_X6_number rfl rfl rfl ⟨rfl, by decide, by decide, rfl⟩ ⟨Nat.le_of_ble_eq_true rfl, Nat.le_of_ble_eq_true rfl⟩ ⟨Nat.zero_le _, Nat.zero_le _⟩ rfl (by decide) (ci := 5) 0 rfl rfl rfl rfl rfl (Nat.le_of_ble_eq_true rfl) dX6_item_56 (fun _ => rfl) (fun zu4 zk4 => ?_)
        refine j_top (nI (rV (nx t n r))) rfl ?_
        refine j_istore_n 59 cx [(2, .int (nI (rV (nx t n r)))), (1, .int 1), (0, .ref o)] dX6_item_59 (by decide) rfl ?_
        refine j_aload_n 60 cx 2 dX6_item_60 rfl ?_
        refine j_get 61 cx 0 12 (T := TX6) (v := .int (bI (true))) (fun _ h => List.mem_cons_of_mem _ (List.mem_append_right _ (h))) (List.mem_of_getElem? (i := 2) rfl) (ci := 5) rfl (by decide) rfl rfl rfl dX6_item_61 ?_
        refine j_if_ne_T 64 cx 76 dX6_item_64 (by decide) (by decide) ?_
        refine j_goto 76 cx 109 dX6_item_76 (by decide) ?_
        have hd0 := of_decide_eq_false zc1
        have hd1 := of_decide_eq_true zc2
        have ze : (iIt t n r σ) = (false, (nx t n r), σ) := by unfold iIt; rw [if_neg hd0, if_pos hd1]; unfold dIt; rw [if_neg (by rw [zc3]; decide)]
        exact fin σ _ _ _ dX6_item_109 (by rw [ze] <;> rfl) (fun q => by rw [ze] at q; cases q)
    · skip
      refine j_get 16 cx 0 8 (T := TX6) (v := .int (nI (mT (rK r)))) (fun _ h => List.mem_cons_of_mem _ (List.mem_append_right _ (h))) (List.mem_of_getElem? (i := 1) rfl) (ci := 5) rfl (by decide) rfl rfl rfl dX6_item_16 ?_
      refine j_bipush 19 cx 8 dX6_item_19 (by decide) ?_
      refine j_icmp_eq_F 21 cx 33 dX6_item_21 (by decide) (mT_ne (of_decide_eq_false zc2) (by decide) hr.kk) ?_
      refine j_aload_n 24 cx 0 dX6_item_24 rfl ?_
      rcases bcase (decide (rK r = 9)) with zc4 | zc4
      · skip
        refine j_get 25 cx 0 8 (T := TX6) (v := .int (nI (mT (rK r)))) (fun _ h => List.mem_cons_of_mem _ (List.mem_append_right _ (h))) (List.mem_of_getElem? (i := 1) rfl) (ci := 5) rfl (by decide) rfl rfl rfl dX6_item_25 ?_
        refine j_bipush 28 cx 9 dX6_item_28 (by decide) ?_
        refine j_icmp_ne_F 30 cx 79 dX6_item_30 (by decide) (mT_w (of_decide_eq_true zc4) (by decide)) ?_
        refine j_aload_n 33 cx 0 dX6_item_33 rfl ?_
        refine j_get 34 cx 0 8 (T := TX6) (v := .int (nI (mT (rK r)))) (fun _ h => List.mem_cons_of_mem _ (List.mem_append_right _ (h))) (List.mem_of_getElem? (i := 1) rfl) (ci := 5) rfl (by decide) rfl rfl rfl dX6_item_34 ?_
        refine j_bipush 37 cx 8 dX6_item_37 (by decide) ?_
        refine j_icmp_ne_T 39 cx 46 dX6_item_39 (by decide) (mT_ne (of_decide_eq_false zc2) (by decide) hr.kk) ?_
        refine j_iconst 46 cx 0 dX6_item_46 (by decide) ?_
        refine j_istore_n 47 cx [(1, .int 0), (0, .ref o)] dX6_item_47 (by decide) rfl ?_
        refine j_aload_n 48 cx 1 dX6_item_48 rfl ?_
        refine j_callV_v 49 cx 0 [0, 1] [] (fun _ => wMO o am ik la (nI n) (nI (mT (rK (nx t n r)))) (nI (rB (nx t n r))) (nI (rA (nx t n r))) (nI (rV (nx t n r))) false ++ ([((am 4), .inl (gI G, 120, .inl t))] ++ [((am 0), .inl (gI G, 51, .inl (mm σ)))])) (c_X6_reads (kl K) G o am ik la (nI (mT (rK r))) (nI (rB r)) (nI (rV r)) false t n (rA r) hT hn hr.an) gX6_item_X6_reads rfl rfl rfl ⟨rfl, by decide, by decide, rfl⟩ ⟨Nat.le_of_ble_eq_true rfl, Nat.le_of_ble_eq_true rfl⟩ ⟨Nat.zero_le _, Nat.zero_le _⟩ rfl (by decide) (ci := 5) 0 rfl rfl rfl rfl rfl (Nat.le_of_ble_eq_true rfl) dX6_item_49 (fun _ => rfl) (fun zu5 zk5 => ?_)
        refine j_aload_n 52 cx 1 dX6_item_52 rfl ?_
        refine j_iconst 53 cx 0 dX6_item_53 (by decide) ?_
        rcases bcase (nOk (nx t n r) 0 6) with zc5 | zc5
        · skip
          refine j_bipush 54 cx 6 dX6_item_54 (by decide) ?_
          refine j_callV_i 56 cx 2 [0, 1] [.int 0, .int 6] (fun _ => wMO o am ik la (nI n) (nI (mT (rK (nx t n (nx t n r))))) (nI (rB (nx t n (nx t n r)))) (nI (rA (nx t n (nx t n r)))) (nI (rV (nx t n (nx t n r)))) false ++ ([((am 4), .inl (gI G, 120, .inl t))] ++ [((am 0), .inl (gI G, 51, .inl (mm σ)))])) (c_X6_number_t (kl K) G o am ik la t n (nx t n r) hT hn hr.nxt 0 6 (by decide) (by decide) zc5) gX6_item_X6_number rfl rfl rfl ⟨rfl, by decide, by decide, rfl⟩ ⟨Nat.le_of_ble_eq_true rfl, Nat.le_of_ble_eq_true rfl⟩ ⟨Nat.zero_le _, Nat.zero_le _⟩ rfl (by decide) (ci := 5) 0 rfl rfl rfl rfl rfl (Nat.le_of_ble_eq_true rfl) dX6_item_56 (fun _ => rfl) (fun zu6 zk6 => ?_)
          have hvzn2 := nOk_t zc5
          refine j_top (nI (rV (nx t n r))) rfl ?_
          refine j_istore_n 59 cx [(2, .int (nI (rV (nx t n r)))), (1, .int 0), (0, .ref o)] dX6_item_59 (by decide) rfl ?_
          refine j_aload_n 60 cx 2 dX6_item_60 rfl ?_
          refine j_get 61 cx 0 12 (T := TX6) (v := .int (bI (false))) (fun _ h => List.mem_cons_of_mem _ (List.mem_append_right _ (h))) (List.mem_of_getElem? (i := 2) rfl) (ci := 5) rfl (by decide) rfl rfl rfl dX6_item_61 ?_
          refine j_if_ne_F 64 cx 76 dX6_item_64 (by decide) rfl ?_
          refine j_aload_n 67 cx 2 dX6_item_67 rfl ?_
          refine j_get 68 cx 0 0 (T := TX6) (v := .ref ((am 0))) (fun _ h => List.mem_cons_of_mem _ (List.mem_append_right _ (h))) (List.mem_of_getElem? (i := 3) rfl) (ci := 5) rfl (by decide) rfl rfl rfl dX6_item_68 ?_
          refine j_iconst 71 cx 4 dX6_item_71 (by decide) ?_
          refine j_iload_n 72 cx 0 dX6_item_72 rfl ?_
          refine j_iadd 73 cx dX6_item_73 ?_
          refine j_top (nI (4 + (rV (nx t n r)))) (nI_add 4 (rV (nx t n r))) ?_
          refine j_iload_n 74 cx 1 dX6_item_74 rfl ?_
          refine j_iast 75 cx 2 (4 + (rV (nx t n r))) (wMO o am ik la (nI n) (nI (mT (rK (nx t n (nx t n r))))) (nI (rB (nx t n (nx t n r)))) (nI (rA (nx t n (nx t n r)))) (nI (rV (nx t n (nx t n r)))) false ++ ([((am 4), .inl (gI G, 120, .inl t))] ++ [((am 0), .inl (gI G, 51, .inl (upd (mm σ) (4 + (rV (nx t n r))) 0)))])) rfl rfl (by omega) (by decide) rfl dX6_item_75 ?_
          refine j_ws (wMO o am ik la (nI n) (nI (mT (rK (nx t n (nx t n r))))) (nI (rB (nx t n (nx t n r)))) (nI (rA (nx t n (nx t n r)))) (nI (rV (nx t n (nx t n r)))) false ++ ([((am 4), .inl (gI G, 120, .inl t))] ++ [((am 0), .inl (gI G, 51, .inl (mm (up2 σ 1 (rV (nx t n r)) 0))))])) (congrArg (fun zf : Nat → Int32 => wMO o am ik la (nI n) (nI (mT (rK (nx t n (nx t n r))))) (nI (rB (nx t n (nx t n r)))) (nI (rA (nx t n (nx t n r)))) (nI (rV (nx t n (nx t n r)))) false ++ ([((am 4), .inl (gI G, 120, .inl t))] ++ [((am 0), .inl (gI G, 51, .inl zf))])) (mm_ufr _ _ (by omega))) ?_
          refine j_goto 76 cx 109 dX6_item_76 (by decide) ?_
          have hd0 := of_decide_eq_false zc1
          have hd1 := of_decide_eq_false zc2
          have hd2 := of_decide_eq_true zc4
          have ze : (iIt t n r σ) = (true, (nx t n (nx t n r)), (up2 σ 1 (rV (nx t n r)) 0)) := by unfold iIt; rw [if_neg hd0, if_neg hd1, if_pos hd2]; unfold dIt; rw [if_pos zc5]
          exact fin (up2 σ 1 (rV (nx t n r)) 0) _ _ _ dX6_item_109 (by rw [ze] <;> rfl) (fun _ => by rw [ze])
        · skip
          refine j_bipush 54 cx 6 dX6_item_54 (by decide) ?_
          refine j_callV_i 56 cx 2 [0, 1] [.int 0, .int 6] (fun _ => wMO o am ik la (nI n) (nI (mT (rK (nx t n r)))) (nI (rB (nx t n r))) (nI (rA (nx t n r))) (nI (rV (nx t n r))) true ++ ([((am 4), .inl (gI G, 120, .inl t))] ++ [((am 0), .inl (gI G, 51, .inl (mm σ)))])) (c_X6_number_f (kl K) G o am ik la t n (nx t n r) hT hn hr.nxt 0 6 (by decide) (by decide) zc5) gX6_item_X6_number rfl rfl rfl ⟨rfl, by decide, by decide, rfl⟩ ⟨Nat.le_of_ble_eq_true rfl, Nat.le_of_ble_eq_true rfl⟩ ⟨Nat.zero_le _, Nat.zero_le _⟩ rfl (by decide) (ci := 5) 0 rfl rfl rfl rfl rfl (Nat.le_of_ble_eq_true rfl) dX6_item_56 (fun _ => rfl) (fun zu7 zk7 => ?_)
          refine j_top (nI (rV (nx t n r))) rfl ?_
          refine j_istore_n 59 cx [(2, .int (nI (rV (nx t n r)))), (1, .int 0), (0, .ref o)] dX6_item_59 (by decide) rfl ?_
          refine j_aload_n 60 cx 2 dX6_item_60 rfl ?_
          refine j_get 61 cx 0 12 (T := TX6) (v := .int (bI (true))) (fun _ h => List.mem_cons_of_mem _ (List.mem_append_right _ (h))) (List.mem_of_getElem? (i := 2) rfl) (ci := 5) rfl (by decide) rfl rfl rfl dX6_item_61 ?_
          refine j_if_ne_T 64 cx 76 dX6_item_64 (by decide) (by decide) ?_
          refine j_goto 76 cx 109 dX6_item_76 (by decide) ?_
          have hd0 := of_decide_eq_false zc1
          have hd1 := of_decide_eq_false zc2
          have hd2 := of_decide_eq_true zc4
          have ze : (iIt t n r σ) = (false, (nx t n r), σ) := by unfold iIt; rw [if_neg hd0, if_neg hd1, if_pos hd2]; unfold dIt; rw [if_neg (by rw [zc5]; decide)]
          exact fin σ _ _ _ dX6_item_109 (by rw [ze] <;> rfl) (fun q => by rw [ze] at q; cases q)
      · skip
        refine j_get 25 cx 0 8 (T := TX6) (v := .int (nI (mT (rK r)))) (fun _ h => List.mem_cons_of_mem _ (List.mem_append_right _ (h))) (List.mem_of_getElem? (i := 1) rfl) (ci := 5) rfl (by decide) rfl rfl rfl dX6_item_25 ?_
        refine j_bipush 28 cx 9 dX6_item_28 (by decide) ?_
        refine j_icmp_ne_T 30 cx 79 dX6_item_30 (by decide) (mT_ne (of_decide_eq_false zc4) (by decide) hr.kk) ?_
        refine j_aload_n 79 cx 0 dX6_item_79 rfl ?_
        rcases bcase (decide (rK r = 10)) with zc6 | zc6
        · skip
          refine j_bipush 80 cx 10 dX6_item_80 (by decide) ?_
          refine j_callV_i 82 cx 1 [0, 1] [.int 10] (fun _ => wMO o am ik la (nI n) (nI (mT (rK (nx t n r)))) (nI (rB (nx t n r))) (nI (rA (nx t n r))) (nI (rV (nx t n r))) false ++ ([((am 4), .inl (gI G, 120, .inl t))] ++ [((am 0), .inl (gI G, 51, .inl (mm σ)))])) (c_X6_passes_t (kl K) G o am ik la t n r hT hn hr 10 (by decide) (of_decide_eq_true zc6)) gX6_item_X6_passes rfl rfl rfl ⟨rfl, by decide, by decide, rfl⟩ ⟨Nat.le_of_ble_eq_true rfl, Nat.le_of_ble_eq_true rfl⟩ ⟨Nat.zero_le _, Nat.zero_le _⟩ rfl (by decide) (ci := 5) 0 rfl rfl rfl rfl rfl (Nat.le_of_ble_eq_true rfl) dX6_item_82 (fun _ => rfl) (fun zu8 zk8 => ?_)
          refine j_top (1) rfl ?_
          refine j_if_eq_F 85 cx 104 dX6_item_85 (by decide) (by decide) ?_
          refine j_aload_n 88 cx 0 dX6_item_88 rfl ?_
          refine j_get 89 cx 0 0 (T := TX6) (v := .ref ((am 0))) (fun _ h => List.mem_cons_of_mem _ (List.mem_append_right _ (h))) (List.mem_of_getElem? (i := 3) rfl) (ci := 5) rfl (by decide) rfl rfl rfl dX6_item_89 ?_
          refine j_iconst 92 cx 1 dX6_item_92 (by decide) ?_
          refine j_aload_n 93 cx 0 dX6_item_93 rfl ?_
          refine j_iconst 94 cx 0 dX6_item_94 (by decide) ?_
          rcases bcase (nOk (nx t n r) 0 99) with zc7 | zc7
          · skip
            refine j_bipush 95 cx 99 dX6_item_95 (by decide) ?_
            refine j_callV_i 97 cx 2 [0, 1] [.int 0, .int 99] (fun _ => wMO o am ik la (nI n) (nI (mT (rK (nx t n (nx t n r))))) (nI (rB (nx t n (nx t n r)))) (nI (rA (nx t n (nx t n r)))) (nI (rV (nx t n (nx t n r)))) false ++ ([((am 4), .inl (gI G, 120, .inl t))] ++ [((am 0), .inl (gI G, 51, .inl (mm σ)))])) (c_X6_number_t (kl K) G o am ik la t n (nx t n r) hT hn hr.nxt 0 99 (by decide) (by decide) zc7) gX6_item_X6_number rfl rfl rfl ⟨rfl, by decide, by decide, rfl⟩ ⟨Nat.le_of_ble_eq_true rfl, Nat.le_of_ble_eq_true rfl⟩ ⟨Nat.zero_le _, Nat.zero_le _⟩ rfl (by decide) (ci := 5) 0 rfl rfl rfl rfl rfl (Nat.le_of_ble_eq_true rfl) dX6_item_97 (fun _ => rfl) (fun zu9 zk9 => ?_)
            have hvzn3 := nOk_t zc7
            refine j_top (nI (rV (nx t n r))) rfl ?_
            refine j_iast 100 cx 2 1 (wMO o am ik la (nI n) (nI (mT (rK (nx t n (nx t n r))))) (nI (rB (nx t n (nx t n r)))) (nI (rA (nx t n (nx t n r)))) (nI (rV (nx t n (nx t n r)))) false ++ ([((am 4), .inl (gI G, 120, .inl t))] ++ [((am 0), .inl (gI G, 51, .inl (upd (mm σ) 1 (nI (rV (nx t n r))))))])) rfl rfl (by omega) (by decide) rfl dX6_item_100 ?_
            refine j_ws (wMO o am ik la (nI n) (nI (mT (rK (nx t n (nx t n r))))) (nI (rB (nx t n (nx t n r)))) (nI (rA (nx t n (nx t n r)))) (nI (rV (nx t n (nx t n r)))) false ++ ([((am 4), .inl (gI G, 120, .inl t))] ++ [((am 0), .inl (gI G, 51, .inl (mm (up2 σ 0 1 (nI (rV (nx t n r)))))))])) (congrArg (fun zf : Nat → Int32 => wMO o am ik la (nI n) (nI (mT (rK (nx t n (nx t n r))))) (nI (rB (nx t n (nx t n r)))) (nI (rA (nx t n (nx t n r)))) (nI (rV (nx t n (nx t n r)))) false ++ ([((am 4), .inl (gI G, 120, .inl t))] ++ [((am 0), .inl (gI G, 51, .inl zf))])) (mm_usc _ _ (by omega))) ?_
            refine j_goto 101 cx 109 dX6_item_101 (by decide) ?_
            have hd0 := of_decide_eq_false zc1
            have hd1 := of_decide_eq_false zc2
            have hd2 := of_decide_eq_false zc4
            have hd3 := of_decide_eq_true zc6
            have ze : (iIt t n r σ) = (true, (nx t n (nx t n r)), (up2 σ 0 1 (nI (rV (nx t n r))))) := by unfold iIt; rw [if_neg hd0, if_neg hd1, if_neg hd2, if_pos hd3]; unfold wIt; rw [if_pos zc7]
            exact fin (up2 σ 0 1 (nI (rV (nx t n r)))) _ _ _ dX6_item_109 (by rw [ze] <;> rfl) (fun _ => by rw [ze])
          · skip
            refine j_bipush 95 cx 99 dX6_item_95 (by decide) ?_
            refine j_callV_i 97 cx 2 [0, 1] [.int 0, .int 99] (fun _ => wMO o am ik la (nI n) (nI (mT (rK (nx t n r)))) (nI (rB (nx t n r))) (nI (rA (nx t n r))) (nI (rV (nx t n r))) true ++ ([((am 4), .inl (gI G, 120, .inl t))] ++ [((am 0), .inl (gI G, 51, .inl (mm σ)))])) (c_X6_number_f (kl K) G o am ik la t n (nx t n r) hT hn hr.nxt 0 99 (by decide) (by decide) zc7) gX6_item_X6_number rfl rfl rfl ⟨rfl, by decide, by decide, rfl⟩ ⟨Nat.le_of_ble_eq_true rfl, Nat.le_of_ble_eq_true rfl⟩ ⟨Nat.zero_le _, Nat.zero_le _⟩ rfl (by decide) (ci := 5) 0 rfl rfl rfl rfl rfl (Nat.le_of_ble_eq_true rfl) dX6_item_97 (fun _ => rfl) (fun zu10 zk10 => ?_)
            refine j_top (nI (rV (nx t n r))) rfl ?_
            refine j_iast 100 cx 2 1 (wMO o am ik la (nI n) (nI (mT (rK (nx t n r)))) (nI (rB (nx t n r))) (nI (rA (nx t n r))) (nI (rV (nx t n r))) true ++ ([((am 4), .inl (gI G, 120, .inl t))] ++ [((am 0), .inl (gI G, 51, .inl (upd (mm σ) 1 (nI (rV (nx t n r))))))])) rfl rfl (by omega) (by decide) rfl dX6_item_100 ?_
            refine j_ws (wMO o am ik la (nI n) (nI (mT (rK (nx t n r)))) (nI (rB (nx t n r))) (nI (rA (nx t n r))) (nI (rV (nx t n r))) true ++ ([((am 4), .inl (gI G, 120, .inl t))] ++ [((am 0), .inl (gI G, 51, .inl (mm (up2 σ 0 1 (nI (rV (nx t n r)))))))])) (congrArg (fun zf : Nat → Int32 => wMO o am ik la (nI n) (nI (mT (rK (nx t n r)))) (nI (rB (nx t n r))) (nI (rA (nx t n r))) (nI (rV (nx t n r))) true ++ ([((am 4), .inl (gI G, 120, .inl t))] ++ [((am 0), .inl (gI G, 51, .inl zf))])) (mm_usc _ _ (by omega))) ?_
            refine j_goto 101 cx 109 dX6_item_101 (by decide) ?_
            have hd0 := of_decide_eq_false zc1
            have hd1 := of_decide_eq_false zc2
            have hd2 := of_decide_eq_false zc4
            have hd3 := of_decide_eq_true zc6
            have ze : (iIt t n r σ) = (false, (nx t n r), σ) := by unfold iIt; rw [if_neg hd0, if_neg hd1, if_neg hd2, if_pos hd3]; unfold wIt; rw [if_neg (by rw [zc7]; decide)]
            exact fin (up2 σ 0 1 (nI (rV (nx t n r)))) _ _ _ dX6_item_109 (by rw [ze] <;> rfl) (fun q => by rw [ze] at q; cases q)
        · skip
          refine j_bipush 80 cx 10 dX6_item_80 (by decide) ?_
          refine j_callV_i 82 cx 1 [0, 1] [.int 10] (fun _ => wMO o am ik la (nI n) (nI (mT (rK r))) (nI (rB r)) (nI (rA r)) (nI (rV r)) false ++ ([((am 4), .inl (gI G, 120, .inl t))] ++ [((am 0), .inl (gI G, 51, .inl (mm σ)))])) (c_X6_passes_f (kl K) G o am ik la t n r hT hn hr 10 (by decide) (of_decide_eq_false zc6)) gX6_item_X6_passes rfl rfl rfl ⟨rfl, by decide, by decide, rfl⟩ ⟨Nat.le_of_ble_eq_true rfl, Nat.le_of_ble_eq_true rfl⟩ ⟨Nat.zero_le _, Nat.zero_le _⟩ rfl (by decide) (ci := 5) 0 rfl rfl rfl rfl rfl (Nat.le_of_ble_eq_true rfl) dX6_item_82 (fun _ => rfl) (fun zu11 zk11 => ?_)
          refine j_top (0) rfl ?_
          refine j_if_eq_T 85 cx 104 dX6_item_85 (by decide) (by decide) ?_
          refine j_aload_n 104 cx 0 dX6_item_104 rfl ?_
          refine j_iconst 105 cx 1 dX6_item_105 (by decide) ?_
          refine j_put 106 cx 0 12 (wMO o am ik la (nI n) (nI (mT (rK r))) (nI (rB r)) (nI (rA r)) (nI (rV r)) true ++ ([((am 4), .inl (gI G, 120, .inl t))] ++ [((am 0), .inl (gI G, 51, .inl (mm σ)))])) (T := TX6) (ty0 := tyX6) (fun _ h => List.mem_cons_of_mem _ (List.mem_append_right _ (h))) (List.mem_of_getElem? (i := 2) rfl) (ci := 5) rfl (by decide) rfl tyX6_ok nmX6 rfl rfl rfl rfl (Nat.le_of_ble_eq_true rfl) rfl dX6_item_106 ?_
          have hd0 := of_decide_eq_false zc1
          have hd1 := of_decide_eq_false zc2
          have hd2 := of_decide_eq_false zc4
          have hd3 := of_decide_eq_false zc6
          have ze : (iIt t n r σ) = (false, r, σ) := by unfold iIt; rw [if_neg hd0, if_neg hd1, if_neg hd2, if_neg hd3]
          exact fin σ _ _ _ dX6_item_109 (by rw [ze] <;> rfl) (fun q => by rw [ze] at q; cases q)
