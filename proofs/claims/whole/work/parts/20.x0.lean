set_option maxRecDepth 100000 in
set_option maxHeartbeats 4000000 in
theorem c_X0_isUnder (l : Launch) (G : pG) (k o : Int32) : KI l G yX0_isUnder wsX0_isUnder ({ frames := 0, cells := 0, slots := 0, locals := 0 } : Room) [.int k, .int o] (([] : va_W)) (S := Unit) (fun _ => True) (fun u => bI (decide (k = o ∨ o = 0 ∨ (k = 4 ∧ o = 1) ∨ (k = 5 ∧ o = 2)))) (fun u => ([] : va_W)) := by
  refine ki_of [(0, .int k), (1, .int o)] (own := RX0) (cc := cX0_isUnder) (nL := 2) (by decide +kernel) rfl rfl (Nat.le_of_ble_eq_true rfl) rfl (fun _ => rfl) (fun K cx fin => ?_)
  refine j_iload_n 0 cx 0 dX0_isUnder_0 rfl ?_
  refine j_iload_n 1 cx 1 dX0_isUnder_1 rfl ?_
  refine j_icmp_eq 2 cx 29 dX0_isUnder_2 (by decide) (fun zc1 => ?_) (fun zc1 => ?_)
  · skip
    refine j_iconst 29 cx 1 dX0_isUnder_29 (by decide) ?_
    refine j_goto 30 cx 34 dX0_isUnder_30 (by decide) ?_
    exact fin () _ _ _ _ dX0_isUnder_34 rfl (by clear fin cx; simp_all [bI]) rfl trivial
  · skip
    refine j_iload_n 5 cx 1 dX0_isUnder_5 rfl ?_
    refine j_if_eq 6 cx 29 dX0_isUnder_6 (by decide) (fun zc2 => ?_) (fun zc2 => ?_)
    · skip
      refine j_iconst 29 cx 1 dX0_isUnder_29 (by decide) ?_
      refine j_goto 30 cx 34 dX0_isUnder_30 (by decide) ?_
      exact fin () _ _ _ _ dX0_isUnder_34 rfl (by clear fin cx; simp_all [bI]) rfl trivial
    · skip
      refine j_iload_n 9 cx 0 dX0_isUnder_9 rfl ?_
      refine j_iconst 10 cx 4 dX0_isUnder_10 (by decide) ?_
      refine j_icmp_ne 11 cx 19 dX0_isUnder_11 (by decide) (fun zc3 => ?_) (fun zc3 => ?_)
      · skip
        refine j_iload_n 19 cx 0 dX0_isUnder_19 rfl ?_
        refine j_iconst 20 cx 5 dX0_isUnder_20 (by decide) ?_
        refine j_icmp_ne 21 cx 33 dX0_isUnder_21 (by decide) (fun zc4 => ?_) (fun zc4 => ?_)
        · skip
          refine j_iconst 33 cx 0 dX0_isUnder_33 (by decide) ?_
          exact fin () _ _ _ _ dX0_isUnder_34 rfl (by clear fin cx; simp_all [bI]) rfl trivial
        · skip
          refine j_iload_n 24 cx 1 dX0_isUnder_24 rfl ?_
          refine j_iconst 25 cx 2 dX0_isUnder_25 (by decide) ?_
          refine j_icmp_ne 26 cx 33 dX0_isUnder_26 (by decide) (fun zc5 => ?_) (fun zc5 => ?_)
          · skip
            refine j_iconst 33 cx 0 dX0_isUnder_33 (by decide) ?_
            exact fin () _ _ _ _ dX0_isUnder_34 rfl (by clear fin cx; simp_all [bI]) rfl trivial
          · skip
            refine j_iconst 29 cx 1 dX0_isUnder_29 (by decide) ?_
            refine j_goto 30 cx 34 dX0_isUnder_30 (by decide) ?_
            exact fin () _ _ _ _ dX0_isUnder_34 rfl (by clear fin cx; simp_all [bI]) rfl trivial
      · skip
        refine j_iload_n 14 cx 1 dX0_isUnder_14 rfl ?_
        refine j_iconst 15 cx 1 dX0_isUnder_15 (by decide) ?_
        refine j_icmp_eq 16 cx 29 dX0_isUnder_16 (by decide) (fun zc6 => ?_) (fun zc6 => ?_)
        · skip
          refine j_iconst 29 cx 1 dX0_isUnder_29 (by decide) ?_
          refine j_goto 30 cx 34 dX0_isUnder_30 (by decide) ?_
          exact fin () _ _ _ _ dX0_isUnder_34 rfl (by clear fin cx; simp_all [bI]) rfl trivial
        · skip
          refine j_iload_n 19 cx 0 dX0_isUnder_19 rfl ?_
          refine j_iconst 20 cx 5 dX0_isUnder_20 (by decide) ?_
          refine j_icmp_ne 21 cx 33 dX0_isUnder_21 (by decide) (fun zc7 => ?_) (fun zc7 => ?_)
          · skip
            refine j_iconst 33 cx 0 dX0_isUnder_33 (by decide) ?_
            exact fin () _ _ _ _ dX0_isUnder_34 rfl (by clear fin cx; simp_all [bI]) rfl trivial
          · skip
            refine j_iload_n 24 cx 1 dX0_isUnder_24 rfl ?_
            refine j_iconst 25 cx 2 dX0_isUnder_25 (by decide) ?_
            refine j_icmp_ne 26 cx 33 dX0_isUnder_26 (by decide) (fun zc8 => ?_) (fun zc8 => ?_)
            · skip
              refine j_iconst 33 cx 0 dX0_isUnder_33 (by decide) ?_
              exact fin () _ _ _ _ dX0_isUnder_34 rfl (by clear fin cx; simp_all [bI]) rfl trivial
            · skip
              refine j_iconst 29 cx 1 dX0_isUnder_29 (by decide) ?_
              refine j_goto 30 cx 34 dX0_isUnder_30 (by decide) ?_
              exact fin () _ _ _ _ dX0_isUnder_34 rfl (by clear fin cx; simp_all [bI]) rfl trivial
set_option maxRecDepth 100000 in
set_option maxHeartbeats 4000000 in
theorem c_X0_needs (l : Launch) (G : pG) (k n : Int32) : KI l G yX0_needs wsX0_needs ({ frames := 0, cells := 0, slots := 0, locals := 0 } : Room) [.int k, .int n] (([] : va_W)) (S := Unit) (fun _ => True) (fun u => kNeeds k n) (fun u => ([] : va_W)) := by
  refine ki_of [(0, .int k), (1, .int n)] (own := RX0) (cc := cX0_needs) (nL := 3) (by decide +kernel) rfl rfl (Nat.le_of_ble_eq_true rfl) rfl (fun _ => rfl) (fun K cx fin => ?_)
  refine j_iconst 0 cx 2 dX0_needs_0 (by decide) ?_
  refine j_iload_n 1 cx 1 dX0_needs_1 rfl ?_
  refine j_imul 2 cx dX0_needs_2 ?_
  refine j_istore_n 3 cx [(2, .int (2 * n)), (0, .int k), (1, .int n)] dX0_needs_3 (by decide) rfl ?_
  refine j_iload_n 4 cx 1 dX0_needs_4 rfl ?_
  by_cases zc1 : k = 1
  · skip
    refine j_tableIn 5 cx 40 (1) dX0_needs_5 zc1 (by decide) (by decide) (by decide) rfl (by decide) ?_
    refine j_iload_n 40 cx 0 dX0_needs_40 rfl ?_
    exact fin () _ _ _ _ dX0_needs_41 rfl (by simp [kNeeds, zc1]) rfl trivial
  · skip
    by_cases zc2 : k = 2
    · skip
      refine j_tableIn 5 cx 54 (2) dX0_needs_5 zc2 (by decide) (by decide) (by decide) rfl (by decide) ?_
      refine j_iload_n 54 cx 2 dX0_needs_54 rfl ?_
      exact fin () _ _ _ _ dX0_needs_55 rfl (by simp [kNeeds, zc1, zc2]) rfl trivial
    · skip
      by_cases zc3 : k = 3
      · skip
        refine j_tableIn 5 cx 42 (3) dX0_needs_5 zc3 (by decide) (by decide) (by decide) rfl (by decide) ?_
        refine j_iconst 42 cx 1 dX0_needs_42 (by decide) ?_
        exact fin () _ _ _ _ dX0_needs_43 rfl (by simp [kNeeds, zc1, zc2, zc3]) rfl trivial
      · skip
        by_cases zc4 : k = 4
        · skip
          refine j_tableIn 5 cx 44 (4) dX0_needs_5 zc4 (by decide) (by decide) (by decide) rfl (by decide) ?_
          refine j_iload_n 44 cx 0 dX0_needs_44 rfl ?_
          refine j_iconst 45 cx 5 dX0_needs_45 (by decide) ?_
          refine j_iadd 46 cx dX0_needs_46 ?_
          exact fin () _ _ _ _ dX0_needs_47 rfl (by simp [kNeeds, zc1, zc2, zc3, zc4]) rfl trivial
        · skip
          by_cases zc5 : k = 5
          · skip
            refine j_tableIn 5 cx 48 (5) dX0_needs_5 zc5 (by decide) (by decide) (by decide) rfl (by decide) ?_
            refine j_iload_n 48 cx 2 dX0_needs_48 rfl ?_
            refine j_iload_n 49 cx 2 dX0_needs_49 rfl ?_
            refine j_iconst 50 cx 2 dX0_needs_50 (by decide) ?_
            refine j_idiv 51 cx dX0_needs_51 (by decide) ?_
            refine j_iadd 52 cx dX0_needs_52 ?_
            exact fin () _ _ _ _ dX0_needs_53 rfl (by simp [kNeeds, zc1, zc2, zc3, zc4, zc5]) rfl trivial
          · skip
            refine j_tableOut 5 cx 54 dX0_needs_5 (tb_out (fun z h1 h2 => by
                have hz : z = 1 ∨ z = 2 ∨ z = 3 ∨ z = 4 ∨ z = 5 := by omega
                rcases hz with rfl | rfl | rfl | rfl | rfl
                · exact ne_ti zc1 (by decide)
                · exact ne_ti zc2 (by decide)
                · exact ne_ti zc3 (by decide)
                · exact ne_ti zc4 (by decide)
                · exact ne_ti zc5 (by decide))) (by decide) ?_
            refine j_iload_n 54 cx 2 dX0_needs_54 rfl ?_
            exact fin () _ _ _ _ dX0_needs_55 rfl (by simp [kNeeds, zc1, zc2, zc3, zc4, zc5]) rfl trivial
set_option maxRecDepth 100000 in
set_option maxHeartbeats 4000000 in
theorem c_X0_gives (l : Launch) (G : pG) (k w : Int32) (h : Bool) : KI l G yX0_gives wsX0_gives ({ frames := 1, cells := 0, slots := 0, locals := 21 } : Room) [.int k, .int w, .int (bI (h))] (([] : va_W)) (S := Unit) (fun _ => True) (fun u => kGives k w h) (fun u => ([] : va_W)) := by
  refine ki_of [(0, .int k), (1, .int w), (2, .int (bI (h)))] (own := RX0) (cc := cX0_gives) (nL := 6) (by decide +kernel) rfl rfl (Nat.le_of_ble_eq_true rfl) rfl (fun _ => rfl) (fun K cx fin => ?_)
  refine j_iconst 0 cx 4 dX0_gives_0 (by decide) ?_
  refine j_iload_n 1 cx 1 dX0_gives_1 rfl ?_
  refine j_bipush 2 cx 30 dX0_gives_2 (by decide) ?_
  refine j_idiv 4 cx dX0_gives_4 (by decide) ?_
  refine j_isub 5 cx dX0_gives_5 ?_
  refine j_istore_n 6 cx [(3, .int (4 - (w / 30))), (0, .int k), (1, .int w), (2, .int (bI (h)))] dX0_gives_6 (by decide) rfl ?_
  refine j_iload_n 7 cx 3 dX0_gives_7 rfl ?_
  refine j_ifB_eq 8 cx 17 dX0_gives_8 (by decide) (fun zc1 => ?_) (fun zc1 => ?_)
  · skip
    refine j_iload_n 17 cx 0 dX0_gives_17 rfl ?_
    refine j_istore 18 cx [(4, .int (4 - (w / 30))), (3, .int (4 - (w / 30))), (0, .int k), (1, .int w), (2, .int (bI (h)))] dX0_gives_18 (by decide) rfl ?_
    refine j_iload_n 20 cx 1 dX0_gives_20 rfl ?_
    refine j_iconst 21 cx 1 dX0_gives_21 (by decide) ?_
    refine j_iadd 22 cx dX0_gives_22 ?_
    refine j_istore 23 cx [(5, .int ((4 - (w / 30)) + 1)), (4, .int (4 - (w / 30))), (3, .int (4 - (w / 30))), (0, .int k), (1, .int w), (2, .int (bI (h)))] dX0_gives_23 (by decide) rfl ?_
    refine j_iload_n 25 cx 3 dX0_gives_25 rfl ?_
    by_cases zc2 : k = 1
    · skip
      refine j_tableIn 26 cx 60 (1) dX0_gives_26 zc2 (by decide) (by decide) (by decide) rfl (by decide) ?_
      refine j_iconst 60 cx 0 dX0_gives_60 (by decide) ?_
      refine j_iload 61 cx 1 dX0_gives_61 rfl ?_
      refine j_max 63 cx (List.mem_of_getElem? (i := 1) rfl) (List.mem_of_getElem? (i := 2) rfl) (List.mem_of_getElem? (i := 3) rfl) (List.mem_of_getElem? (i := 4) rfl) (by decide) (Nat.le_of_ble_eq_true rfl) (Nat.zero_le _) (Nat.zero_le _) dX0_gives_63 ?_
      refine j_top (mx0 (4 - (w / 30))) rfl ?_
      exact fin () _ _ _ _ dX0_gives_66 rfl (by simp [kGives, zc1, zc2]) rfl trivial
    · skip
      by_cases zc3 : k = 2
      · skip
        refine j_tableIn 26 cx 67 (2) dX0_gives_26 zc3 (by decide) (by decide) (by decide) rfl (by decide) ?_
        refine j_iconst 67 cx 0 dX0_gives_67 (by decide) ?_
        refine j_iload 68 cx 0 dX0_gives_68 rfl ?_
        refine j_max 70 cx (List.mem_of_getElem? (i := 1) rfl) (List.mem_of_getElem? (i := 2) rfl) (List.mem_of_getElem? (i := 3) rfl) (List.mem_of_getElem? (i := 4) rfl) (by decide) (Nat.le_of_ble_eq_true rfl) (Nat.zero_le _) (Nat.zero_le _) dX0_gives_70 ?_
        refine j_top (mx0 ((4 - (w / 30)) + 1)) rfl ?_
        exact fin () _ _ _ _ dX0_gives_73 rfl (by simp [kGives, zc1, zc2, zc3]) rfl trivial
      · skip
        by_cases zc4 : k = 3
        · skip
          refine j_tableIn 26 cx 74 (3) dX0_gives_26 zc4 (by decide) (by decide) (by decide) rfl (by decide) ?_
          refine j_iconst 74 cx 1 dX0_gives_74 (by decide) ?_
          exact fin () _ _ _ _ dX0_gives_75 rfl (by simp [kGives, zc1, zc2, zc3, zc4]) rfl trivial
        · skip
          by_cases zc5 : k = 4
          · skip
            refine j_tableIn 26 cx 76 (4) dX0_gives_26 zc5 (by decide) (by decide) (by decide) rfl (by decide) ?_
            refine j_iconst 76 cx 0 dX0_gives_76 (by decide) ?_
            refine j_iload 77 cx 1 dX0_gives_77 rfl ?_
            refine j_iconst 79 cx 1 dX0_gives_79 (by decide) ?_
            refine j_isub 80 cx dX0_gives_80 ?_
            refine j_max 81 cx (List.mem_of_getElem? (i := 1) rfl) (List.mem_of_getElem? (i := 2) rfl) (List.mem_of_getElem? (i := 3) rfl) (List.mem_of_getElem? (i := 4) rfl) (by decide) (Nat.le_of_ble_eq_true rfl) (Nat.zero_le _) (Nat.zero_le _) dX0_gives_81 ?_
            refine j_top (mx0 ((4 - (w / 30)) - 1)) rfl ?_
            exact fin () _ _ _ _ dX0_gives_84 rfl (by simp [kGives, zc1, zc2, zc3, zc4, zc5]) rfl trivial
          · skip
            by_cases zc6 : k = 5
            · skip
              refine j_tableIn 26 cx 85 (5) dX0_gives_26 zc6 (by decide) (by decide) (by decide) rfl (by decide) ?_
              refine j_iload_n 85 cx 4 dX0_gives_85 rfl ?_
              refine j_bipush 86 cx 80 dX0_gives_86 (by decide) ?_
              refine j_icmp_le 88 cx 95 dX0_gives_88 (by decide) (fun zc7 => ?_) (fun zc7 => ?_)
              · skip
                refine j_iconst 95 cx 0 dX0_gives_95 (by decide) ?_
                refine j_iload 96 cx 0 dX0_gives_96 rfl ?_
                refine j_max 98 cx (List.mem_of_getElem? (i := 1) rfl) (List.mem_of_getElem? (i := 2) rfl) (List.mem_of_getElem? (i := 3) rfl) (List.mem_of_getElem? (i := 4) rfl) (by decide) (Nat.le_of_ble_eq_true rfl) (Nat.zero_le _) (Nat.zero_le _) dX0_gives_98 ?_
                refine j_top (mx0 ((4 - (w / 30)) + 1)) rfl ?_
                exact fin () _ _ _ _ dX0_gives_101 rfl (by simp [kGives, zc1, zc2, zc3, zc4, zc5, zc6, Int32.not_lt.mpr zc7]) rfl trivial
              · skip
                refine j_iconst 91 cx 0 dX0_gives_91 (by decide) ?_
                refine j_goto 92 cx 101 dX0_gives_92 (by decide) ?_
                exact fin () _ _ _ _ dX0_gives_101 rfl (by simp [kGives, zc1, zc2, zc3, zc4, zc5, zc6, Int32.not_le.mp zc7]) rfl trivial
            · skip
              refine j_tableOut 26 cx 102 dX0_gives_26 (tb_out (fun z h1 h2 => by
                  have hz : z = 1 ∨ z = 2 ∨ z = 3 ∨ z = 4 ∨ z = 5 := by omega
                  rcases hz with rfl | rfl | rfl | rfl | rfl
                  · exact ne_ti zc2 (by decide)
                  · exact ne_ti zc3 (by decide)
                  · exact ne_ti zc4 (by decide)
                  · exact ne_ti zc5 (by decide)
                  · exact ne_ti zc6 (by decide))) (by decide) ?_
              refine j_iconst 102 cx 0 dX0_gives_102 (by decide) ?_
              refine j_iload_n 103 cx 2 dX0_gives_103 rfl ?_
              refine j_max 104 cx (List.mem_of_getElem? (i := 1) rfl) (List.mem_of_getElem? (i := 2) rfl) (List.mem_of_getElem? (i := 3) rfl) (List.mem_of_getElem? (i := 4) rfl) (by decide) (Nat.le_of_ble_eq_true rfl) (Nat.zero_le _) (Nat.zero_le _) dX0_gives_104 ?_
              refine j_top (mx0 (4 - (w / 30))) rfl ?_
              exact fin () _ _ _ _ dX0_gives_107 rfl (by simp [kGives, zc1, zc2, zc3, zc4, zc5, zc6]) rfl trivial
  · skip
    refine j_iload_n 11 cx 0 dX0_gives_11 rfl ?_
    refine j_iconst 12 cx 3 dX0_gives_12 (by decide) ?_
    refine j_iadd 13 cx dX0_gives_13 ?_
    refine j_goto 14 cx 18 dX0_gives_14 (by decide) ?_
    refine j_istore 18 cx [(4, .int ((4 - (w / 30)) + 3)), (3, .int (4 - (w / 30))), (0, .int k), (1, .int w), (2, .int (bI (h)))] dX0_gives_18 (by decide) rfl ?_
    refine j_iload_n 20 cx 1 dX0_gives_20 rfl ?_
    refine j_iconst 21 cx 1 dX0_gives_21 (by decide) ?_
    refine j_iadd 22 cx dX0_gives_22 ?_
    refine j_istore 23 cx [(5, .int ((4 - (w / 30)) + 1)), (4, .int ((4 - (w / 30)) + 3)), (3, .int (4 - (w / 30))), (0, .int k), (1, .int w), (2, .int (bI (h)))] dX0_gives_23 (by decide) rfl ?_
    refine j_iload_n 25 cx 3 dX0_gives_25 rfl ?_
    by_cases zc8 : k = 1
    · skip
      refine j_tableIn 26 cx 60 (1) dX0_gives_26 zc8 (by decide) (by decide) (by decide) rfl (by decide) ?_
      refine j_iconst 60 cx 0 dX0_gives_60 (by decide) ?_
      refine j_iload 61 cx 1 dX0_gives_61 rfl ?_
      refine j_max 63 cx (List.mem_of_getElem? (i := 1) rfl) (List.mem_of_getElem? (i := 2) rfl) (List.mem_of_getElem? (i := 3) rfl) (List.mem_of_getElem? (i := 4) rfl) (by decide) (Nat.le_of_ble_eq_true rfl) (Nat.zero_le _) (Nat.zero_le _) dX0_gives_63 ?_
      refine j_top (mx0 ((4 - (w / 30)) + 3)) rfl ?_
      exact fin () _ _ _ _ dX0_gives_66 rfl (by simp [kGives, zc1, zc8]) rfl trivial
    · skip
      by_cases zc9 : k = 2
      · skip
        refine j_tableIn 26 cx 67 (2) dX0_gives_26 zc9 (by decide) (by decide) (by decide) rfl (by decide) ?_
        refine j_iconst 67 cx 0 dX0_gives_67 (by decide) ?_
        refine j_iload 68 cx 0 dX0_gives_68 rfl ?_
        refine j_max 70 cx (List.mem_of_getElem? (i := 1) rfl) (List.mem_of_getElem? (i := 2) rfl) (List.mem_of_getElem? (i := 3) rfl) (List.mem_of_getElem? (i := 4) rfl) (by decide) (Nat.le_of_ble_eq_true rfl) (Nat.zero_le _) (Nat.zero_le _) dX0_gives_70 ?_
        refine j_top (mx0 ((4 - (w / 30)) + 1)) rfl ?_
        exact fin () _ _ _ _ dX0_gives_73 rfl (by simp [kGives, zc1, zc8, zc9]) rfl trivial
      · skip
        by_cases zc10 : k = 3
        · skip
          refine j_tableIn 26 cx 74 (3) dX0_gives_26 zc10 (by decide) (by decide) (by decide) rfl (by decide) ?_
          refine j_iconst 74 cx 1 dX0_gives_74 (by decide) ?_
          exact fin () _ _ _ _ dX0_gives_75 rfl (by simp [kGives, zc1, zc8, zc9, zc10]) rfl trivial
        · skip
          by_cases zc11 : k = 4
          · skip
            refine j_tableIn 26 cx 76 (4) dX0_gives_26 zc11 (by decide) (by decide) (by decide) rfl (by decide) ?_
            refine j_iconst 76 cx 0 dX0_gives_76 (by decide) ?_
            refine j_iload 77 cx 1 dX0_gives_77 rfl ?_
            refine j_iconst 79 cx 1 dX0_gives_79 (by decide) ?_
            refine j_isub 80 cx dX0_gives_80 ?_
            refine j_max 81 cx (List.mem_of_getElem? (i := 1) rfl) (List.mem_of_getElem? (i := 2) rfl) (List.mem_of_getElem? (i := 3) rfl) (List.mem_of_getElem? (i := 4) rfl) (by decide) (Nat.le_of_ble_eq_true rfl) (Nat.zero_le _) (Nat.zero_le _) dX0_gives_81 ?_
            refine j_top (mx0 (((4 - (w / 30)) + 3) - 1)) rfl ?_
            exact fin () _ _ _ _ dX0_gives_84 rfl (by simp [kGives, zc1, zc8, zc9, zc10, zc11]) rfl trivial
          · skip
            by_cases zc12 : k = 5
            · skip
              refine j_tableIn 26 cx 85 (5) dX0_gives_26 zc12 (by decide) (by decide) (by decide) rfl (by decide) ?_
              refine j_iload_n 85 cx 4 dX0_gives_85 rfl ?_
              refine j_bipush 86 cx 80 dX0_gives_86 (by decide) ?_
              refine j_icmp_le 88 cx 95 dX0_gives_88 (by decide) (fun zc13 => ?_) (fun zc13 => ?_)
              · skip
                refine j_iconst 95 cx 0 dX0_gives_95 (by decide) ?_
                refine j_iload 96 cx 0 dX0_gives_96 rfl ?_
                refine j_max 98 cx (List.mem_of_getElem? (i := 1) rfl) (List.mem_of_getElem? (i := 2) rfl) (List.mem_of_getElem? (i := 3) rfl) (List.mem_of_getElem? (i := 4) rfl) (by decide) (Nat.le_of_ble_eq_true rfl) (Nat.zero_le _) (Nat.zero_le _) dX0_gives_98 ?_
                refine j_top (mx0 ((4 - (w / 30)) + 1)) rfl ?_
                exact fin () _ _ _ _ dX0_gives_101 rfl (by simp [kGives, zc1, zc8, zc9, zc10, zc11, zc12, Int32.not_lt.mpr zc13]) rfl trivial
              · skip
                refine j_iconst 91 cx 0 dX0_gives_91 (by decide) ?_
                refine j_goto 92 cx 101 dX0_gives_92 (by decide) ?_
                exact fin () _ _ _ _ dX0_gives_101 rfl (by simp [kGives, zc1, zc8, zc9, zc10, zc11, zc12, Int32.not_le.mp zc13]) rfl trivial
            · skip
              refine j_tableOut 26 cx 102 dX0_gives_26 (tb_out (fun z h1 h2 => by
                  have hz : z = 1 ∨ z = 2 ∨ z = 3 ∨ z = 4 ∨ z = 5 := by omega
                  rcases hz with rfl | rfl | rfl | rfl | rfl
                  · exact ne_ti zc8 (by decide)
                  · exact ne_ti zc9 (by decide)
                  · exact ne_ti zc10 (by decide)
                  · exact ne_ti zc11 (by decide)
                  · exact ne_ti zc12 (by decide))) (by decide) ?_
              refine j_iconst 102 cx 0 dX0_gives_102 (by decide) ?_
              refine j_iload_n 103 cx 2 dX0_gives_103 rfl ?_
              refine j_max 104 cx (List.mem_of_getElem? (i := 1) rfl) (List.mem_of_getElem? (i := 2) rfl) (List.mem_of_getElem? (i := 3) rfl) (List.mem_of_getElem? (i := 4) rfl) (by decide) (Nat.le_of_ble_eq_true rfl) (Nat.zero_le _) (Nat.zero_le _) dX0_gives_104 ?_
              refine j_top (mx0 (4 - (w / 30))) rfl ?_
              exact fin () _ _ _ _ dX0_gives_107 rfl (by simp [kGives, zc1, zc8, zc9, zc10, zc11, zc12]) rfl trivial
set_option maxRecDepth 100000 in
set_option maxHeartbeats 4000000 in
theorem c_X0_calls (l : Launch) (G : pG) (k n d w : Int32) (h : Bool) : KI l G yX0_calls wsX0_calls ({ frames := 1, cells := 0, slots := 0, locals := 21 } : Room) [.int k, .int n, .int d, .int w, .int (bI (h))] (([] : va_W)) (S := Unit) (fun _ => True) (fun u => kCalls k n d w h) (fun u => ([] : va_W)) := by
  refine ki_of [(0, .int k), (1, .int n), (2, .int d), (3, .int w), (4, .int (bI (h)))] (own := RX0) (cc := cX0_calls) (nL := 8) (by decide +kernel) rfl rfl (Nat.le_of_ble_eq_true rfl) rfl (fun _ => rfl) (fun K cx fin => ?_)
  refine j_bipush 0 cx 50 dX0_calls_0 (by decide) ?_
  refine j_iload_n 2 cx 2 dX0_calls_2 rfl ?_
  refine j_iadd 3 cx dX0_calls_3 ?_
  refine j_istore 4 cx [(5, .int (50 + d)), (0, .int k), (1, .int n), (2, .int d), (3, .int w), (4, .int (bI (h)))] dX0_calls_4 (by decide) rfl ?_
  refine j_iload 6 cx 0 dX0_calls_6 rfl ?_
  refine j_iload_n 8 cx 2 dX0_calls_8 rfl ?_
  refine j_iadd 9 cx dX0_calls_9 ?_
  refine j_istore 10 cx [(6, .int ((50 + d) + n)), (5, .int (50 + d)), (0, .int k), (1, .int n), (2, .int d), (3, .int w), (4, .int (bI (h)))] dX0_calls_10 (by decide) rfl ?_
  refine j_iload 12 cx 1 dX0_calls_12 rfl ?_
  refine j_iconst 14 cx 5 dX0_calls_14 (by decide) ?_
  refine j_isub 15 cx dX0_calls_15 ?_
  refine j_istore 16 cx [(7, .int ((50 + d) - 5)), (6, .int ((50 + d) + n)), (5, .int (50 + d)), (0, .int k), (1, .int n), (2, .int d), (3, .int w), (4, .int (bI (h)))] dX0_calls_16 (by decide) rfl ?_
  refine j_iload_n 18 cx 3 dX0_calls_18 rfl ?_
  by_cases zc1 : k = 1
  · skip
    refine j_tableIn 19 cx 52 (1) dX0_calls_19 zc1 (by decide) (by decide) (by decide) rfl (by decide) ?_
    refine j_iconst 52 cx 0 dX0_calls_52 (by decide) ?_
    refine j_iload 53 cx 1 dX0_calls_53 rfl ?_
    refine j_max 55 cx (List.mem_of_getElem? (i := 1) rfl) (List.mem_of_getElem? (i := 2) rfl) (List.mem_of_getElem? (i := 3) rfl) (List.mem_of_getElem? (i := 4) rfl) (by decide) (Nat.le_of_ble_eq_true rfl) (Nat.zero_le _) (Nat.zero_le _) dX0_calls_55 ?_
    refine j_top (mx0 ((50 + d) + n)) rfl ?_
    exact fin () _ _ _ _ dX0_calls_58 rfl (by simp [kCalls, zc1]) rfl trivial
  · skip
    by_cases zc2 : k = 2
    · skip
      refine j_tableIn 19 cx 59 (2) dX0_calls_19 zc2 (by decide) (by decide) (by decide) rfl (by decide) ?_
      refine j_iconst 59 cx 0 dX0_calls_59 (by decide) ?_
      refine j_iload 60 cx 0 dX0_calls_60 rfl ?_
      refine j_max 62 cx (List.mem_of_getElem? (i := 1) rfl) (List.mem_of_getElem? (i := 2) rfl) (List.mem_of_getElem? (i := 3) rfl) (List.mem_of_getElem? (i := 4) rfl) (by decide) (Nat.le_of_ble_eq_true rfl) (Nat.zero_le _) (Nat.zero_le _) dX0_calls_62 ?_
      refine j_top (mx0 ((50 + d) - 5)) rfl ?_
      exact fin () _ _ _ _ dX0_calls_65 rfl (by simp [kCalls, zc1, zc2]) rfl trivial
    · skip
      by_cases zc3 : k = 3
      · skip
        refine j_tableIn 19 cx 66 (3) dX0_calls_19 zc3 (by decide) (by decide) (by decide) rfl (by decide) ?_
        refine j_bipush 66 cx 60 dX0_calls_66 (by decide) ?_
        exact fin () _ _ _ _ dX0_calls_68 rfl (by simp [kCalls, zc1, zc2, zc3]) rfl trivial
      · skip
        by_cases zc4 : k = 4
        · skip
          refine j_tableIn 19 cx 69 (4) dX0_calls_19 zc4 (by decide) (by decide) (by decide) rfl (by decide) ?_
          refine j_iload_n 69 cx 6 dX0_calls_69 rfl ?_
          refine j_bipush 70 cx 50 dX0_calls_70 (by decide) ?_
          refine j_icmp_le 72 cx 79 dX0_calls_72 (by decide) (fun zc5 => ?_) (fun zc5 => ?_)
          · skip
            refine j_iconst 79 cx 0 dX0_calls_79 (by decide) ?_
            refine j_iload 80 cx 1 dX0_calls_80 rfl ?_
            refine j_max 82 cx (List.mem_of_getElem? (i := 1) rfl) (List.mem_of_getElem? (i := 2) rfl) (List.mem_of_getElem? (i := 3) rfl) (List.mem_of_getElem? (i := 4) rfl) (by decide) (Nat.le_of_ble_eq_true rfl) (Nat.zero_le _) (Nat.zero_le _) dX0_calls_82 ?_
            refine j_top (mx0 ((50 + d) + n)) rfl ?_
            exact fin () _ _ _ _ dX0_calls_85 rfl (by simp [kCalls, zc1, zc2, zc3, zc4, Int32.not_lt.mpr zc5]) rfl trivial
          · skip
            refine j_iconst 75 cx 0 dX0_calls_75 (by decide) ?_
            refine j_goto 76 cx 85 dX0_calls_76 (by decide) ?_
            exact fin () _ _ _ _ dX0_calls_85 rfl (by simp [kCalls, zc1, zc2, zc3, zc4, Int32.not_le.mp zc5]) rfl trivial
        · skip
          by_cases zc6 : k = 5
          · skip
            refine j_tableIn 19 cx 86 (5) dX0_calls_19 zc6 (by decide) (by decide) (by decide) rfl (by decide) ?_
            refine j_iload 86 cx 7 dX0_calls_86 rfl ?_
            refine j_ifB_eq 88 cx 95 dX0_calls_88 (by decide) (fun zc7 => ?_) (fun zc7 => ?_)
            · skip
              refine j_iconst 95 cx 0 dX0_calls_95 (by decide) ?_
              refine j_iload 96 cx 0 dX0_calls_96 rfl ?_
              refine j_max 98 cx (List.mem_of_getElem? (i := 1) rfl) (List.mem_of_getElem? (i := 2) rfl) (List.mem_of_getElem? (i := 3) rfl) (List.mem_of_getElem? (i := 4) rfl) (by decide) (Nat.le_of_ble_eq_true rfl) (Nat.zero_le _) (Nat.zero_le _) dX0_calls_98 ?_
              refine j_top (mx0 ((50 + d) - 5)) rfl ?_
              exact fin () _ _ _ _ dX0_calls_101 rfl (by simp [kCalls, zc1, zc2, zc3, zc4, zc6, zc7]) rfl trivial
            · skip
              refine j_iconst 91 cx 1 dX0_calls_91 (by decide) ?_
              refine j_goto 92 cx 101 dX0_calls_92 (by decide) ?_
              exact fin () _ _ _ _ dX0_calls_101 rfl (by simp [kCalls, zc1, zc2, zc3, zc4, zc6, zc7]) rfl trivial
          · skip
            refine j_tableOut 19 cx 102 dX0_calls_19 (tb_out (fun z h1 h2 => by
                have hz : z = 1 ∨ z = 2 ∨ z = 3 ∨ z = 4 ∨ z = 5 := by omega
                rcases hz with rfl | rfl | rfl | rfl | rfl
                · exact ne_ti zc1 (by decide)
                · exact ne_ti zc2 (by decide)
                · exact ne_ti zc3 (by decide)
                · exact ne_ti zc4 (by decide)
                · exact ne_ti zc6 (by decide))) (by decide) ?_
            refine j_iconst 102 cx 0 dX0_calls_102 (by decide) ?_
            refine j_iload 103 cx 2 dX0_calls_103 rfl ?_
            refine j_max 105 cx (List.mem_of_getElem? (i := 1) rfl) (List.mem_of_getElem? (i := 2) rfl) (List.mem_of_getElem? (i := 3) rfl) (List.mem_of_getElem? (i := 4) rfl) (by decide) (Nat.le_of_ble_eq_true rfl) (Nat.zero_le _) (Nat.zero_le _) dX0_calls_105 ?_
            refine j_top (mx0 (50 + d)) rfl ?_
            exact fin () _ _ _ _ dX0_calls_108 rfl (by simp [kCalls, zc1, zc2, zc3, zc4, zc6]) rfl trivial
set_option maxRecDepth 100000 in
set_option maxHeartbeats 4000000 in
theorem c_X0_tires (l : Launch) (G : pG) (k : Int32) : KI l G yX0_tires wsX0_tires ({ frames := 0, cells := 0, slots := 0, locals := 0 } : Room) [.int k] (([] : va_W)) (S := Unit) (fun _ => True) (fun u => kTires k) (fun u => ([] : va_W)) := by
  refine ki_of [(0, .int k)] (own := RX0) (cc := cX0_tires) (nL := 1) (by decide +kernel) rfl rfl (Nat.le_of_ble_eq_true rfl) rfl (fun _ => rfl) (fun K cx fin => ?_)
  refine j_iload_n 0 cx 0 dX0_tires_0 rfl ?_
  by_cases zc1 : k = 1
  · skip
    refine j_tableIn 1 cx 36 (1) dX0_tires_1 zc1 (by decide) (by decide) (by decide) rfl (by decide) ?_
    refine j_bipush 36 cx 10 dX0_tires_36 (by decide) ?_
    exact fin () _ _ _ _ dX0_tires_38 rfl (by simp [kTires, zc1]) rfl trivial
  · skip
    by_cases zc2 : k = 2
    · skip
      refine j_tableIn 1 cx 39 (2) dX0_tires_1 zc2 (by decide) (by decide) (by decide) rfl (by decide) ?_
      refine j_bipush 39 cx (-3) dX0_tires_39 (by decide) ?_
      exact fin () _ _ _ _ dX0_tires_41 rfl (by simp [kTires, zc1, zc2]) rfl trivial
    · skip
      by_cases zc3 : k = 3
      · skip
        refine j_tableIn 1 cx 42 (3) dX0_tires_1 zc3 (by decide) (by decide) (by decide) rfl (by decide) ?_
        refine j_iconst 42 cx 0 dX0_tires_42 (by decide) ?_
        exact fin () _ _ _ _ dX0_tires_43 rfl (by simp [kTires, zc1, zc2, zc3]) rfl trivial
      · skip
        by_cases zc4 : k = 4
        · skip
          refine j_tableIn 1 cx 36 (4) dX0_tires_1 zc4 (by decide) (by decide) (by decide) rfl (by decide) ?_
          refine j_bipush 36 cx 10 dX0_tires_36 (by decide) ?_
          exact fin () _ _ _ _ dX0_tires_38 rfl (by simp [kTires, zc1, zc2, zc3, zc4]) rfl trivial
        · skip
          by_cases zc5 : k = 5
          · skip
            refine j_tableIn 1 cx 44 (5) dX0_tires_1 zc5 (by decide) (by decide) (by decide) rfl (by decide) ?_
            refine j_iconst 44 cx (-1) dX0_tires_44 (by decide) ?_
            exact fin () _ _ _ _ dX0_tires_45 rfl (by simp [kTires, zc1, zc2, zc3, zc4, zc5]) rfl trivial
          · skip
            refine j_tableOut 1 cx 46 dX0_tires_1 (tb_out (fun z h1 h2 => by
                have hz : z = 1 ∨ z = 2 ∨ z = 3 ∨ z = 4 ∨ z = 5 := by omega
                rcases hz with rfl | rfl | rfl | rfl | rfl
                · exact ne_ti zc1 (by decide)
                · exact ne_ti zc2 (by decide)
                · exact ne_ti zc3 (by decide)
                · exact ne_ti zc4 (by decide)
                · exact ne_ti zc5 (by decide))) (by decide) ?_
            refine j_bipush 46 cx 6 dX0_tires_46 (by decide) ?_
            exact fin () _ _ _ _ dX0_tires_48 rfl (by simp [kTires, zc1, zc2, zc3, zc4, zc5]) rfl trivial
