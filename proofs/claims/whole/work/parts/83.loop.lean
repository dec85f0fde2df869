/-! the law: its loop -/
set_option maxRecDepth 100000 in
set_option maxHeartbeats 4000000 in
theorem law_loop {G : pG} {K : pK} (cx : CX G K cL_law RL wsL_law 4 room_1) {b L : Nat} {xs : Nat → Int32} (hX : va_X b L xs (ks K) (ks K).heap) (hbl : b < (ks K).heap.size) (hbA : ¬ kA K b) (hL : L ≤ 3072) (ox om : Nat) (ax am qh qt qk sh nh : Nat → Nat) (hend : ∀ (ws : va_W) (lv : List (Nat × Value)), JJ G K 44 953 ws lv 1178 [.int 1]) : ∀ (d i : Nat) (S : St) (τ κ ω : Nu) (tk st be nu la mk mb ma mv : Int32) (bd : Bool), L ≤ i + d → i ≤ L → InS S → (sP S = true → κ = sK S) → JJ G K 44 953 (WG G ox om ax am qh qt qk sh nh (sP S) (sN S) τ (sK S) (nI (sL S)) (sT S) tk st be nu (sB S) (sZ S) (sC S) (sF S) (sP S) la (nI (sL S)) mk mb ma mv bd (sN S) κ ω (sF S) (sT S) (sB S) (sZ S) (sC S)) [(3, .int (nI (i))), (2, .ref om), (1, .ref ox), (0, .ref b)] 18 [] := by
  intro d
  induction d with
  | zero =>
    intro i S τ κ ω tk st be nu la mk mb ma mv bd h1 h2 hS hκ
    refine j_iload_n 18 cx 0 dL_law_18 rfl ?_
    refine j_aload_n 19 cx 3 dL_law_19 rfl ?_
    refine j_slen 20 cx hX hbl hbA dL_law_20 ?_
    refine j_bipush 21 cx 6 dL_law_21 (by decide) ?_
    refine j_isub 23 cx dL_law_23 ?_
    refine j_icmp_gt_T 24 cx 1177 dL_law_24 (by decide) (lw_out hL (by omega) (by omega)) ?_
    refine j_iconst 1177 cx 1 dL_law_1177 (by decide) ?_
    exact hend _ _
  | succ d ih =>
    intro i S τ κ ω tk st be nu la mk mb ma mv bd h1 h2 hS hκ
    refine j_iload_n 18 cx 0 dL_law_18 rfl ?_
    refine j_aload_n 19 cx 3 dL_law_19 rfl ?_
    refine j_slen 20 cx hX hbl hbA dL_law_20 ?_
    refine j_bipush 21 cx 6 dL_law_21 (by decide) ?_
    refine j_isub 23 cx dL_law_23 ?_
    refine j_icmp_gt 24 cx 1177 dL_law_24 (by decide) (fun _ => ?_) (fun hgt => ?_)
    · refine j_iconst 1177 cx 1 dL_law_1177 (by decide) ?_
      exact hend _ _
    have hi6 : i + 6 ≤ L := lw_in hL (by omega) hgt
    have ih6 : ∀ (S : St) (τ κ ω : Nu) (tk st be nu la mk mb ma mv : Int32) (bd : Bool), InS S → (sP S = true → κ = sK S) → JJ G K 44 953 (WG G ox om ax am qh qt qk sh nh (sP S) (sN S) τ (sK S) (nI (sL S)) (sT S) tk st be nu (sB S) (sZ S) (sC S) (sF S) (sP S) la (nI (sL S)) mk mb ma mv bd (sN S) κ ω (sF S) (sT S) (sB S) (sZ S) (sC S)) [(3, .int (nI (i + 6))), (2, .ref om), (1, .ref ox), (0, .ref b)] 18 [] := fun S τ κ ω tk st be nu la mk mb ma mv bd h1 h2 => ih (i + 6) S τ κ ω tk st be nu la mk mb ma mv bd (by omega) (by omega) h1 h2
    refine j_aload_n 27 cx 3 dL_law_27 rfl ?_
    refine j_iload_n 28 cx 0 dL_law_28 rfl ?_
    refine j_sld 29 cx hX hbl hbA i rfl (by omega) (by omega) dL_law_29 ?_
    refine j_bipush 30 cx 63 dL_law_30 (by decide) ?_
    refine j_iand 32 cx dL_law_32 ?_
    obtain ⟨v, hv⟩ : ∃ v : Int32, xs i &&& 63 = v := ⟨_, rfl⟩
    rw [hv]
    clear hv hgt
    by_cases z0 : v = 0
    · skip
      refine j_tableIn 33 cx 192 (0) dL_law_33 z0 (by decide) (by decide) (by decide) rfl (by decide) ?_
      exact lc_weary cx hX hbl hbA hL ox om ax am qh qt qk sh nh i hi6 ih6 S τ κ ω tk st be nu la mk mb ma mv bd hS hκ
    by_cases z1 : v = 1
    · skip
      refine j_tableIn 33 cx 215 (1) dL_law_33 z1 (by decide) (by decide) (by decide) rfl (by decide) ?_
      exact lc_free cx hX hbl hbA hL ox om ax am qh qt qk sh nh i hi6 ih6 S τ κ ω tk st be nu la mk mb ma mv bd hS hκ
    by_cases z2 : v = 2
    · skip
      refine j_tableIn 33 cx 248 (2) dL_law_33 z2 (by decide) (by decide) (by decide) rfl (by decide) ?_
      exact lc_now cx hX hbl hbA hL ox om ax am qh qt qk sh nh i hi6 ih6 S τ κ ω tk st be nu la mk mb ma mv bd hS hκ
    by_cases z3 : v = 3
    · skip
      refine j_tableIn 33 cx 271 (3) dL_law_33 z3 (by decide) (by decide) (by decide) rfl (by decide) ?_
      exact lc_part cx hX hbl hbA hL ox om ax am qh qt qk sh nh i hi6 ih6 S τ κ ω tk st be nu la mk mb ma mv bd hS hκ
    by_cases z4 : v = 4
    · skip
      refine j_tableIn 33 cx 304 (4) dL_law_33 z4 (by decide) (by decide) (by decide) rfl (by decide) ?_
      exact lc_of cx hX hbl hbA hL ox om ax am qh qt qk sh nh i hi6 ih6 S τ κ ω tk st be nu la mk mb ma mv bd hS hκ
    by_cases z5 : v = 5
    · skip
      refine j_tableIn 33 cx 337 (5) dL_law_33 z5 (by decide) (by decide) (by decide) rfl (by decide) ?_
      exact lc_set cx hX hbl hbA hL ox om ax am qh qt qk sh nh i hi6 ih6 S τ κ ω tk st be nu la mk mb ma mv bd hS hκ
    by_cases z6 : v = 6
    · skip
      refine j_tableIn 33 cx 380 (6) dL_law_33 z6 (by decide) (by decide) (by decide) rfl (by decide) ?_
      exact lc_turn cx hX hbl hbA hL ox om ax am qh qt qk sh nh i hi6 ih6 S τ κ ω tk st be nu la mk mb ma mv bd hS hκ
    by_cases z7 : v = 7
    · skip
      refine j_tableIn 33 cx 413 (7) dL_law_33 z7 (by decide) (by decide) (by decide) rfl (by decide) ?_
      exact lc_as cx hX hbl hbA hL ox om ax am qh qt qk sh nh i hi6 ih6 S τ κ ω tk st be nu la mk mb ma mv bd hS hκ
    by_cases z8 : v = 8
    · skip
      refine j_tableIn 33 cx 446 (8) dL_law_33 z8 (by decide) (by decide) (by decide) rfl (by decide) ?_
      exact lc_left cx hX hbl hbA hL ox om ax am qh qt qk sh nh i hi6 ih6 S τ κ ω tk st be nu la mk mb ma mv bd hS hκ
    by_cases z9 : v = 9
    · skip
      refine j_tableIn 33 cx 469 (9) dL_law_33 z9 (by decide) (by decide) (by decide) rfl (by decide) ?_
      exact lc_days cx hX hbl hbA hL ox om ax am qh qt qk sh nh i hi6 ih6 S τ κ ω tk st be nu la mk mb ma mv bd hS hκ
    by_cases z10 : v = 10
    · skip
      refine j_tableIn 33 cx 492 (10) dL_law_33 z10 (by decide) (by decide) (by decide) rfl (by decide) ?_
      exact lc_on cx hX hbl hbA hL ox om ax am qh qt qk sh nh i hi6 ih6 S τ κ ω tk st be nu la mk mb ma mv bd hS hκ
    by_cases z11 : v = 11
    · skip
      refine j_tableIn 33 cx 535 (11) dL_law_33 z11 (by decide) (by decide) (by decide) rfl (by decide) ?_
      exact lc_then cx hX hbl hbA hL ox om ax am qh qt qk sh nh i hi6 ih6 S τ κ ω tk st be nu la mk mb ma mv bd hS hκ
    by_cases z12 : v = 12
    · skip
      refine j_tableIn 33 cx 568 (12) dL_law_33 z12 (by decide) (by decide) (by decide) rfl (by decide) ?_
      exact lc_done cx hX hbl hbA hL ox om ax am qh qt qk sh nh i hi6 ih6 S τ κ ω tk st be nu la mk mb ma mv bd hS hκ
    by_cases z13 : v = 13
    · skip
      refine j_tableIn 33 cx 591 (13) dL_law_33 z13 (by decide) (by decide) (by decide) rfl (by decide) ?_
      exact lc_all cx hX hbl hbA hL ox om ax am qh qt qk sh nh i hi6 ih6 S τ κ ω tk st be nu la mk mb ma mv bd hS hκ
    by_cases z14 : v = 14
    · skip
      refine j_tableIn 33 cx 604 (14) dL_law_33 z14 (by decide) (by decide) (by decide) rfl (by decide) ?_
      exact lc_played cx hX hbl hbA hL ox om ax am qh qt qk sh nh i hi6 ih6 S τ κ ω tk st be nu la mk mb ma mv bd hS hκ
    by_cases z15 : v = 15
    · skip
      refine j_tableIn 33 cx 627 (15) dL_law_33 z15 (by decide) (by decide) (by decide) rfl (by decide) ?_
      exact lc_later cx hX hbl hbA hL ox om ax am qh qt qk sh nh i hi6 ih6 S τ κ ω tk st be nu la mk mb ma mv bd hS hκ
    by_cases z16 : v = 16
    · skip
      refine j_tableIn 33 cx 650 (16) dL_law_33 z16 (by decide) (by decide) (by decide) rfl (by decide) ?_
      exact lc_kind cx hX hbl hbA hL ox om ax am qh qt qk sh nh i hi6 ih6 S τ κ ω tk st be nu la mk mb ma mv bd hS hκ
    by_cases z17 : v = 17
    · skip
      refine j_tableIn 33 cx 673 (17) dL_law_33 z17 (by decide) (by decide) (by decide) rfl (by decide) ?_
      exact lc_bears cx hX hbl hbA hL ox om ax am qh qt qk sh nh i hi6 ih6 S τ κ ω tk st be nu la mk mb ma mv bd hS hκ
    by_cases z18 : v = 18
    · skip
      refine j_tableIn 33 cx 696 (18) dL_law_33 z18 (by decide) (by decide) (by decide) rfl (by decide) ?_
      exact lc_holiday cx hX hbl hbA hL ox om ax am qh qt qk sh nh i hi6 ih6 S τ κ ω tk st be nu la mk mb ma mv bd hS hκ
    by_cases z19 : v = 19
    · skip
      refine j_tableIn 33 cx 709 (19) dL_law_33 z19 (by decide) (by decide) (by decide) rfl (by decide) ?_
      exact lc_last cx hX hbl hbA hL ox om ax am qh qt qk sh nh i hi6 ih6 S τ κ ω tk st be nu la mk mb ma mv bd hS hκ
    by_cases z20 : v = 20
    · skip
      refine j_tableIn 33 cx 722 (20) dL_law_33 z20 (by decide) (by decide) (by decide) rfl (by decide) ?_
      exact lc_longest cx hX hbl hbA hL ox om ax am qh qt qk sh nh i hi6 ih6 S τ κ ω tk st be nu la mk mb ma mv bd hS hκ
    by_cases z21 : v = 21
    · skip
      refine j_tableIn 33 cx 745 (21) dL_law_33 z21 (by decide) (by decide) (by decide) rfl (by decide) ?_
      exact lc_due cx hX hbl hbA hL ox om ax am qh qt qk sh nh i hi6 ih6 S τ κ ω tk st be nu la mk mb ma mv bd hS hκ
    by_cases z22 : v = 22
    · skip
      refine j_tableIn 33 cx 768 (22) dL_law_33 z22 (by decide) (by decide) (by decide) rfl (by decide) ?_
      exact lc_feed cx hX hbl hbA hL ox om ax am qh qt qk sh nh i hi6 ih6 S τ κ ω tk st be nu la mk mb ma mv bd hS hκ
    by_cases z23 : v = 23
    · skip
      refine j_tableIn 33 cx 801 (23) dL_law_33 z23 (by decide) (by decide) (by decide) rfl (by decide) ?_
      exact lc_wipe cx hX hbl hbA hL ox om ax am qh qt qk sh nh i hi6 ih6 S τ κ ω tk st be nu la mk mb ma mv bd hS hκ
    by_cases z24 : v = 24
    · skip
      refine j_tableIn 33 cx 814 (24) dL_law_33 z24 (by decide) (by decide) (by decide) rfl (by decide) ?_
      exact lc_nursery cx hX hbl hbA hL ox om ax am qh qt qk sh nh i hi6 ih6 S τ κ ω tk st be nu la mk mb ma mv bd hS hκ
    by_cases z25 : v = 25
    · skip
      refine j_tableIn 33 cx 827 (25) dL_law_33 z25 (by decide) (by decide) (by decide) rfl (by decide) ?_
      exact lc_sheet cx hX hbl hbA hL ox om ax am qh qt qk sh nh i hi6 ih6 S τ κ ω tk st be nu la mk mb ma mv bd hS hκ
    by_cases z26 : v = 26
    · skip
      refine j_tableIn 33 cx 870 (26) dL_law_33 z26 (by decide) (by decide) (by decide) rfl (by decide) ?_
      exact lc_write cx hX hbl hbA hL ox om ax am qh qt qk sh nh i hi6 ih6 S τ κ ω tk st be nu la mk mb ma mv bd hS hκ
    by_cases z27 : v = 27
    · skip
      refine j_tableIn 33 cx 944 (27) dL_law_33 z27 (by decide) (by decide) (by decide) rfl (by decide) ?_
      exact lc_copy cx hX hbl hbA hL ox om ax am qh qt qk sh nh i hi6 ih6 S τ κ ω tk st be nu la mk mb ma mv bd hS hκ
    by_cases z28 : v = 28
    · skip
      refine j_tableIn 33 cx 1007 (28) dL_law_33 z28 (by decide) (by decide) (by decide) rfl (by decide) ?_
      exact lc_lays cx hX hbl hbA hL ox om ax am qh qt qk sh nh i hi6 ih6 S τ κ ω tk st be nu la mk mb ma mv bd hS hκ
    by_cases z29 : v = 29
    · skip
      refine j_tableIn 33 cx 1030 (29) dL_law_33 z29 (by decide) (by decide) (by decide) rfl (by decide) ?_
      exact lc_book cx hX hbl hbA hL ox om ax am qh qt qk sh nh i hi6 ih6 S τ κ ω tk st be nu la mk mb ma mv bd hS hκ
    by_cases z30 : v = 30
    · skip
      refine j_tableIn 33 cx 1053 (30) dL_law_33 z30 (by decide) (by decide) (by decide) rfl (by decide) ?_
      exact lc_read cx hX hbl hbA hL ox om ax am qh qt qk sh nh i hi6 ih6 S τ κ ω tk st be nu la mk mb ma mv bd hS hκ
    by_cases z31 : v = 31
    · skip
      refine j_tableIn 33 cx 1086 (31) dL_law_33 z31 (by decide) (by decide) (by decide) rfl (by decide) ?_
      exact lc_image cx hX hbl hbA hL ox om ax am qh qt qk sh nh i hi6 ih6 S τ κ ω tk st be nu la mk mb ma mv bd hS hκ
    by_cases z32 : v = 32
    · skip
      refine j_tableIn 33 cx 1099 (32) dL_law_33 z32 (by decide) (by decide) (by decide) rfl (by decide) ?_
      exact lc_undo cx hX hbl hbA hL ox om ax am qh qt qk sh nh i hi6 ih6 S τ κ ω tk st be nu la mk mb ma mv bd hS hκ
    by_cases z33 : v = 33
    · skip
      refine j_tableIn 33 cx 1112 (33) dL_law_33 z33 (by decide) (by decide) (by decide) rfl (by decide) ?_
      exact lc_tear cx hX hbl hbA hL ox om ax am qh qt qk sh nh i hi6 ih6 S τ κ ω tk st be nu la mk mb ma mv bd hS hκ
    by_cases z34 : v = 34
    · skip
      refine j_tableIn 33 cx 1125 (34) dL_law_33 z34 (by decide) (by decide) (by decide) rfl (by decide) ?_
      exact lc_count cx hX hbl hbA hL ox om ax am qh qt qk sh nh i hi6 ih6 S τ κ ω tk st be nu la mk mb ma mv bd hS hκ
    by_cases z35 : v = 35
    · skip
      refine j_tableIn 33 cx 1148 (35) dL_law_33 z35 (by decide) (by decide) (by decide) rfl (by decide) ?_
      exact lc_status cx hX hbl hbA hL ox om ax am qh qt qk sh nh i hi6 ih6 S τ κ ω tk st be nu la mk mb ma mv bd hS hκ
    refine j_tableOut 33 cx 1171 dL_law_33 (tb_out (fun z h1 h2 => by
      have hz : z = 0 ∨ z = 1 ∨ z = 2 ∨ z = 3 ∨ z = 4 ∨ z = 5 ∨ z = 6 ∨ z = 7 ∨ z = 8 ∨ z = 9 ∨ z = 10 ∨ z = 11 ∨ z = 12 ∨ z = 13 ∨ z = 14 ∨ z = 15 ∨ z = 16 ∨ z = 17 ∨ z = 18 ∨ z = 19 ∨ z = 20 ∨ z = 21 ∨ z = 22 ∨ z = 23 ∨ z = 24 ∨ z = 25 ∨ z = 26 ∨ z = 27 ∨ z = 28 ∨ z = 29 ∨ z = 30 ∨ z = 31 ∨ z = 32 ∨ z = 33 ∨ z = 34 ∨ z = 35 := by omega
      rcases hz with rfl | rfl | rfl | rfl | rfl | rfl | rfl | rfl | rfl | rfl | rfl | rfl | rfl | rfl | rfl | rfl | rfl | rfl | rfl | rfl | rfl | rfl | rfl | rfl | rfl | rfl | rfl | rfl | rfl | rfl | rfl | rfl | rfl | rfl | rfl | rfl
      · exact ne_ti z0 (by decide)
      · exact ne_ti z1 (by decide)
      · exact ne_ti z2 (by decide)
      · exact ne_ti z3 (by decide)
      · exact ne_ti z4 (by decide)
      · exact ne_ti z5 (by decide)
      · exact ne_ti z6 (by decide)
      · exact ne_ti z7 (by decide)
      · exact ne_ti z8 (by decide)
      · exact ne_ti z9 (by decide)
      · exact ne_ti z10 (by decide)
      · exact ne_ti z11 (by decide)
      · exact ne_ti z12 (by decide)
      · exact ne_ti z13 (by decide)
      · exact ne_ti z14 (by decide)
      · exact ne_ti z15 (by decide)
      · exact ne_ti z16 (by decide)
      · exact ne_ti z17 (by decide)
      · exact ne_ti z18 (by decide)
      · exact ne_ti z19 (by decide)
      · exact ne_ti z20 (by decide)
      · exact ne_ti z21 (by decide)
      · exact ne_ti z22 (by decide)
      · exact ne_ti z23 (by decide)
      · exact ne_ti z24 (by decide)
      · exact ne_ti z25 (by decide)
      · exact ne_ti z26 (by decide)
      · exact ne_ti z27 (by decide)
      · exact ne_ti z28 (by decide)
      · exact ne_ti z29 (by decide)
      · exact ne_ti z30 (by decide)
      · exact ne_ti z31 (by decide)
      · exact ne_ti z32 (by decide)
      · exact ne_ti z33 (by decide)
      · exact ne_ti z34 (by decide)
      · exact ne_ti z35 (by decide))) (by decide) ?_
    refine j_iinc 1171 cx [(3, .int (nI (i + 6))), (2, .ref om), (1, .ref ox), (0, .ref b)] 0 (nI (i + 6)) dL_law_1171 rfl (iinc6 i) (by decide) rfl ?_
    refine j_goto 1174 cx 18 dL_law_1174 (by decide) ?_
    exact ih6 S τ κ ω tk st be nu la mk mb ma mv bd hS hκ
