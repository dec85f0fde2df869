set_option maxRecDepth 100000 in
set_option maxHeartbeats 4000000 in
theorem lc_holiday {G : pG} {K : pK} (cx : CX G K cL_law RL wsL_law 4 room_1) {b L : Nat} {xs : Nat → Int32} (hX : va_X b L xs (ks K) (ks K).heap) (hbl : b < (ks K).heap.size) (hbA : ¬ kA K b) (hL : L ≤ 3072) (ox om : Nat) (ax am qh qt qk sh nh : Nat → Nat) (i : Nat) (hi : i + 6 ≤ L) (ih : ∀ (S : St) (τ κ ω : Nu) (tk st be nu la mk mb ma mv : Int32) (bd : Bool), InS S → (sP S = true → κ = sK S) → JJ G K 44 953 (WG G ox om ax am qh qt qk sh nh (sP S) (sN S) τ (sK S) (nI (sL S)) (sT S) tk st be nu (sB S) (sZ S) (sC S) (sF S) (sP S) la (nI (sL S)) mk mb ma mv bd (sN S) κ ω (sF S) (sT S) (sB S) (sZ S) (sC S)) [(3, .int (nI (i + 6))), (2, .ref om), (1, .ref ox), (0, .ref b)] 18 []) (S : St) (τ κ ω : Nu) (tk st be nu la mk mb ma mv : Int32) (bd : Bool) (hS : InS S) (hκ : sP S = true → κ = sK S) : JJ G K 44 953 (WG G ox om ax am qh qt qk sh nh (sP S) (sN S) τ (sK S) (nI (sL S)) (sT S) tk st be nu (sB S) (sZ S) (sC S) (sF S) (sP S) la (nI (sL S)) mk mb ma mv bd (sN S) κ ω (sF S) (sT S) (sB S) (sZ S) (sC S)) [(3, .int (nI (i))), (2, .ref om), (1, .ref ox), (0, .ref b)] 696 [] := by
  refine j_aload_n 696 cx 2 dL_law_696 rfl ?_
  refine j_callV_i 697 cx 0 [0, 34, 1, 2, 3, 4, 5, 6, 7, 8, 9, 10, 11, 12, 13, 14] [] (fun zu1 => WG G ox om ax am qh qt qk sh nh (sP S) (sN (sp_holiday S).2) zu1 (sK S) (nI (sL S)) (sT S) tk st be nu (sB S) (sZ S) (sC S) (sF (sp_holiday S).2) (sP S) la (nI (sL S)) mk mb ma mv bd (sN S) κ ω (sF S) (sT S) (sB S) (sZ S) (sC S)) (c_X5_holiday (kl K) G ox ax qh qt qk S τ hS.1.1 hS.1.2.1 ) gL_law_X5_holiday rfl rfl rfl ⟨rfl, by decide, by decide, rfl⟩ ⟨Nat.le_of_ble_eq_true rfl, Nat.le_of_ble_eq_true rfl⟩ ⟨Nat.le_of_ble_eq_true rfl, Nat.le_of_ble_eq_true rfl⟩ rfl (by decide) (ci := 4) 0 rfl rfl rfl rfl rfl (Nat.le_of_ble_eq_true rfl) dL_law_697 (fun zu1 => by simp only [WG, rep, List.cons_append, List.nil_append, List.set_cons_zero, List.set_cons_succ] <;> rfl) (fun zu1 zk9 => ?_)
  refine j_top ((sp_holiday S).1) rfl ?_
  refine j_aload_n 700 cx 1 dL_law_700 rfl ?_
  refine j_callV_i 701 cx 0 [35, 36, 39, 38] [] (fun zu2 => WG G ox om ax am qh qt qk sh nh (sP S) (sN (sp_holiday S).2) zu1 (sK S) (nI (sL S)) (sT S) tk st be nu (sB S) (sZ S) (sC S) (sF (sp_holiday S).2) (sP S) (zu2.1) (nI (sL S)) mk mb ma mv bd (sN (sp_holiday S).2) κ (zu2.2) (sF (sp_holiday S).2) (sT S) (sB S) (sZ S) (sC S)) (c_X6_holiday (kl K) G om am S la mk mb ma mv bd ω hS.1.1 hS.1.2.1 ) gL_law_X6_holiday rfl rfl rfl ⟨rfl, by decide, by decide, rfl⟩ ⟨Nat.le_of_ble_eq_true rfl, Nat.le_of_ble_eq_true rfl⟩ ⟨Nat.le_of_ble_eq_true rfl, Nat.le_of_ble_eq_true rfl⟩ rfl (by decide) (ci := 5) 0 rfl rfl rfl rfl rfl (Nat.le_of_ble_eq_true rfl) dL_law_701 (fun zu2 => by simp only [WG, rep, List.cons_append, List.nil_append, List.set_cons_zero, List.set_cons_succ] <;> rfl) (fun zu2 zk9 => ?_)
  refine j_top ((sp_holiday S).1) rfl ?_
  refine j_icmp_eq_T 704 cx 1171 dL_law_704 (by decide) rfl ?_
  refine j_iinc 1171 cx [(3, .int (nI (i + 6))), (2, .ref om), (1, .ref ox), (0, .ref b)] 0 (nI (i + 6)) dL_law_1171 rfl (iinc6 i) (by decide) rfl ?_
  refine j_goto 1174 cx 18 dL_law_1174 (by decide) ?_
  have hk := kp_holiday S
  have h9 := ih (sp_holiday S).2 zu1 κ (zu2.2) tk st be nu (zu2.1) mk mb ma mv bd (is_holiday hS) (fun q => by rw [hk.2.1] at q; rw [hk.1]; exact hκ q)
  rw [hk.1, hk.2.1, hk.2.2.1, hk.2.2.2.1, hk.2.2.2.2.1, hk.2.2.2.2.2.1, hk.2.2.2.2.2.2] at h9
  exact h9
set_option maxRecDepth 100000 in
set_option maxHeartbeats 4000000 in
theorem lc_last {G : pG} {K : pK} (cx : CX G K cL_law RL wsL_law 4 room_1) {b L : Nat} {xs : Nat → Int32} (hX : va_X b L xs (ks K) (ks K).heap) (hbl : b < (ks K).heap.size) (hbA : ¬ kA K b) (hL : L ≤ 3072) (ox om : Nat) (ax am qh qt qk sh nh : Nat → Nat) (i : Nat) (hi : i + 6 ≤ L) (ih : ∀ (S : St) (τ κ ω : Nu) (tk st be nu la mk mb ma mv : Int32) (bd : Bool), InS S → (sP S = true → κ = sK S) → JJ G K 44 953 (WG G ox om ax am qh qt qk sh nh (sP S) (sN S) τ (sK S) (nI (sL S)) (sT S) tk st be nu (sB S) (sZ S) (sC S) (sF S) (sP S) la (nI (sL S)) mk mb ma mv bd (sN S) κ ω (sF S) (sT S) (sB S) (sZ S) (sC S)) [(3, .int (nI (i + 6))), (2, .ref om), (1, .ref ox), (0, .ref b)] 18 []) (S : St) (τ κ ω : Nu) (tk st be nu la mk mb ma mv : Int32) (bd : Bool) (hS : InS S) (hκ : sP S = true → κ = sK S) : JJ G K 44 953 (WG G ox om ax am qh qt qk sh nh (sP S) (sN S) τ (sK S) (nI (sL S)) (sT S) tk st be nu (sB S) (sZ S) (sC S) (sF S) (sP S) la (nI (sL S)) mk mb ma mv bd (sN S) κ ω (sF S) (sT S) (sB S) (sZ S) (sC S)) [(3, .int (nI (i))), (2, .ref om), (1, .ref ox), (0, .ref b)] 709 [] := by
  refine j_aload_n 709 cx 2 dL_law_709 rfl ?_
  refine j_callV_i 710 cx 0 [0, 34, 1, 2, 3, 4, 5, 6, 7, 8, 9, 10, 11, 12, 13, 14] [] (fun zu1 => WG G ox om ax am qh qt qk sh nh (sP S) (sN (sp_last S).2) zu1 (sK S) (nI (sL S)) (sT S) tk st be nu (sB S) (sZ S) (sC S) (sF (sp_last S).2) (sP S) la (nI (sL S)) mk mb ma mv bd (sN S) κ ω (sF S) (sT S) (sB S) (sZ S) (sC S)) (c_X5_last (kl K) G ox ax qh qt qk S τ hS.1.1 hS.1.2.1 ) gL_law_X5_last rfl rfl rfl ⟨rfl, by decide, by decide, rfl⟩ ⟨Nat.le_of_ble_eq_true rfl, Nat.le_of_ble_eq_true rfl⟩ ⟨Nat.le_of_ble_eq_true rfl, Nat.le_of_ble_eq_true rfl⟩ rfl (by decide) (ci := 4) 0 rfl rfl rfl rfl rfl (Nat.le_of_ble_eq_true rfl) dL_law_710 (fun zu1 => by simp only [WG, rep, List.cons_append, List.nil_append, List.set_cons_zero, List.set_cons_succ] <;> rfl) (fun zu1 zk9 => ?_)
  refine j_top ((sp_last S).1) rfl ?_
  refine j_aload_n 713 cx 1 dL_law_713 rfl ?_
  refine j_callV_i 714 cx 0 [35, 36, 39, 38] [] (fun zu2 => WG G ox om ax am qh qt qk sh nh (sP S) (sN (sp_last S).2) zu1 (sK S) (nI (sL S)) (sT S) tk st be nu (sB S) (sZ S) (sC S) (sF (sp_last S).2) (sP S) (zu2.1) (nI (sL S)) mk mb ma mv bd (sN (sp_last S).2) κ (zu2.2) (sF (sp_last S).2) (sT S) (sB S) (sZ S) (sC S)) (c_X6_last (kl K) G om am S la mk mb ma mv bd ω hS.1.1 hS.1.2.1 ) gL_law_X6_last rfl rfl rfl ⟨rfl, by decide, by decide, rfl⟩ ⟨Nat.le_of_ble_eq_true rfl, Nat.le_of_ble_eq_true rfl⟩ ⟨Nat.le_of_ble_eq_true rfl, Nat.le_of_ble_eq_true rfl⟩ rfl (by decide) (ci := 5) 0 rfl rfl rfl rfl rfl (Nat.le_of_ble_eq_true rfl) dL_law_714 (fun zu2 => by simp only [WG, rep, List.cons_append, List.nil_append, List.set_cons_zero, List.set_cons_succ] <;> rfl) (fun zu2 zk9 => ?_)
  refine j_top ((sp_last S).1) rfl ?_
  refine j_icmp_eq_T 717 cx 1171 dL_law_717 (by decide) rfl ?_
  refine j_iinc 1171 cx [(3, .int (nI (i + 6))), (2, .ref om), (1, .ref ox), (0, .ref b)] 0 (nI (i + 6)) dL_law_1171 rfl (iinc6 i) (by decide) rfl ?_
  refine j_goto 1174 cx 18 dL_law_1174 (by decide) ?_
  have hk := kp_last S
  have h9 := ih (sp_last S).2 zu1 κ (zu2.2) tk st be nu (zu2.1) mk mb ma mv bd (is_last hS) (fun q => by rw [hk.2.1] at q; rw [hk.1]; exact hκ q)
  rw [hk.1, hk.2.1, hk.2.2.1, hk.2.2.2.1, hk.2.2.2.2.1, hk.2.2.2.2.2.1, hk.2.2.2.2.2.2] at h9
  exact h9
set_option maxRecDepth 100000 in
set_option maxHeartbeats 4000000 in
theorem lc_longest {G : pG} {K : pK} (cx : CX G K cL_law RL wsL_law 4 room_1) {b L : Nat} {xs : Nat → Int32} (hX : va_X b L xs (ks K) (ks K).heap) (hbl : b < (ks K).heap.size) (hbA : ¬ kA K b) (hL : L ≤ 3072) (ox om : Nat) (ax am qh qt qk sh nh : Nat → Nat) (i : Nat) (hi : i + 6 ≤ L) (ih : ∀ (S : St) (τ κ ω : Nu) (tk st be nu la mk mb ma mv : Int32) (bd : Bool), InS S → (sP S = true → κ = sK S) → JJ G K 44 953 (WG G ox om ax am qh qt qk sh nh (sP S) (sN S) τ (sK S) (nI (sL S)) (sT S) tk st be nu (sB S) (sZ S) (sC S) (sF S) (sP S) la (nI (sL S)) mk mb ma mv bd (sN S) κ ω (sF S) (sT S) (sB S) (sZ S) (sC S)) [(3, .int (nI (i + 6))), (2, .ref om), (1, .ref ox), (0, .ref b)] 18 []) (S : St) (τ κ ω : Nu) (tk st be nu la mk mb ma mv : Int32) (bd : Bool) (hS : InS S) (hκ : sP S = true → κ = sK S) : JJ G K 44 953 (WG G ox om ax am qh qt qk sh nh (sP S) (sN S) τ (sK S) (nI (sL S)) (sT S) tk st be nu (sB S) (sZ S) (sC S) (sF S) (sP S) la (nI (sL S)) mk mb ma mv bd (sN S) κ ω (sF S) (sT S) (sB S) (sZ S) (sC S)) [(3, .int (nI (i))), (2, .ref om), (1, .ref ox), (0, .ref b)] 722 [] := by
  refine j_aload_n 722 cx 2 dL_law_722 rfl ?_
  refine j_aload_n 723 cx 3 dL_law_723 rfl ?_
  refine j_iload_n 724 cx 0 dL_law_724 rfl ?_
  refine j_iconst 725 cx 1 dL_law_725 (by decide) ?_
  refine j_iadd 726 cx dL_law_726 ?_
  refine j_top (nI (i + 1)) (nI_add i 1) ?_
  refine j_sld 727 cx hX hbl hbA (i + 1) rfl (by omega) (by omega) dL_law_727 ?_
  refine j_callV_i 728 cx 1 [0, 34, 1, 2, 3, 4, 5, 6, 7, 8, 9, 10, 11, 12, 13, 14] [.int (xs (i + 1))] (fun zu1 => WG G ox om ax am qh qt qk sh nh (sP S) (sN (sp_longest (xs (i + 1)) S).2) zu1 (sK S) (nI (sL S)) (sT S) tk st be nu (sB S) (sZ S) (sC S) (sF (sp_longest (xs (i + 1)) S).2) (sP S) la (nI (sL S)) mk mb ma mv bd (sN S) κ ω (sF S) (sT S) (sB S) (sZ S) (sC S)) (c_X5_longest (kl K) G ox ax qh qt qk S τ hS.1.1 hS.1.2.1 (xs (i + 1))) gL_law_X5_longest rfl rfl rfl ⟨rfl, by decide, by decide, rfl⟩ ⟨Nat.le_of_ble_eq_true rfl, Nat.le_of_ble_eq_true rfl⟩ ⟨Nat.le_of_ble_eq_true rfl, Nat.le_of_ble_eq_true rfl⟩ rfl (by decide) (ci := 4) 0 rfl rfl rfl rfl rfl (Nat.le_of_ble_eq_true rfl) dL_law_728 (fun zu1 => by simp only [WG, rep, List.cons_append, List.nil_append, List.set_cons_zero, List.set_cons_succ] <;> rfl) (fun zu1 zk9 => ?_)
  refine j_top ((sp_longest (xs (i + 1)) S).1) rfl ?_
  refine j_aload_n 731 cx 1 dL_law_731 rfl ?_
  refine j_aload_n 732 cx 3 dL_law_732 rfl ?_
  refine j_iload_n 733 cx 0 dL_law_733 rfl ?_
  refine j_iconst 734 cx 1 dL_law_734 (by decide) ?_
  refine j_iadd 735 cx dL_law_735 ?_
  refine j_top (nI (i + 1)) (nI_add i 1) ?_
  refine j_sld 736 cx hX hbl hbA (i + 1) rfl (by omega) (by omega) dL_law_736 ?_
  refine j_callV_i 737 cx 1 [35, 36, 39, 38] [.int (xs (i + 1))] (fun zu2 => WG G ox om ax am qh qt qk sh nh (sP S) (sN (sp_longest (xs (i + 1)) S).2) zu1 (sK S) (nI (sL S)) (sT S) tk st be nu (sB S) (sZ S) (sC S) (sF (sp_longest (xs (i + 1)) S).2) (sP S) (zu2.1) (nI (sL S)) mk mb ma mv bd (sN (sp_longest (xs (i + 1)) S).2) κ (zu2.2) (sF (sp_longest (xs (i + 1)) S).2) (sT S) (sB S) (sZ S) (sC S)) (c_X6_longest (kl K) G om am S la mk mb ma mv bd ω hS.1.1 hS.1.2.1 (xs (i + 1))) gL_law_X6_longest rfl rfl rfl ⟨rfl, by decide, by decide, rfl⟩ ⟨Nat.le_of_ble_eq_true rfl, Nat.le_of_ble_eq_true rfl⟩ ⟨Nat.le_of_ble_eq_true rfl, Nat.le_of_ble_eq_true rfl⟩ rfl (by decide) (ci := 5) 0 rfl rfl rfl rfl rfl (Nat.le_of_ble_eq_true rfl) dL_law_737 (fun zu2 => by simp only [WG, rep, List.cons_append, List.nil_append, List.set_cons_zero, List.set_cons_succ] <;> rfl) (fun zu2 zk9 => ?_)
  refine j_top ((sp_longest (xs (i + 1)) S).1) rfl ?_
  refine j_icmp_eq_T 740 cx 1171 dL_law_740 (by decide) rfl ?_
  refine j_iinc 1171 cx [(3, .int (nI (i + 6))), (2, .ref om), (1, .ref ox), (0, .ref b)] 0 (nI (i + 6)) dL_law_1171 rfl (iinc6 i) (by decide) rfl ?_
  refine j_goto 1174 cx 18 dL_law_1174 (by decide) ?_
  have hk := kp_longest (xs (i + 1)) S
  have h9 := ih (sp_longest (xs (i + 1)) S).2 zu1 κ (zu2.2) tk st be nu (zu2.1) mk mb ma mv bd (is_longest (xs (i + 1)) hS) (fun q => by rw [hk.2.1] at q; rw [hk.1]; exact hκ q)
  rw [hk.1, hk.2.1, hk.2.2.1, hk.2.2.2.1, hk.2.2.2.2.1, hk.2.2.2.2.2.1, hk.2.2.2.2.2.2] at h9
  exact h9
set_option maxRecDepth 100000 in
set_option maxHeartbeats 4000000 in
theorem lc_due {G : pG} {K : pK} (cx : CX G K cL_law RL wsL_law 4 room_1) {b L : Nat} {xs : Nat → Int32} (hX : va_X b L xs (ks K) (ks K).heap) (hbl : b < (ks K).heap.size) (hbA : ¬ kA K b) (hL : L ≤ 3072) (ox om : Nat) (ax am qh qt qk sh nh : Nat → Nat) (i : Nat) (hi : i + 6 ≤ L) (ih : ∀ (S : St) (τ κ ω : Nu) (tk st be nu la mk mb ma mv : Int32) (bd : Bool), InS S → (sP S = true → κ = sK S) → JJ G K 44 953 (WG G ox om ax am qh qt qk sh nh (sP S) (sN S) τ (sK S) (nI (sL S)) (sT S) tk st be nu (sB S) (sZ S) (sC S) (sF S) (sP S) la (nI (sL S)) mk mb ma mv bd (sN S) κ ω (sF S) (sT S) (sB S) (sZ S) (sC S)) [(3, .int (nI (i + 6))), (2, .ref om), (1, .ref ox), (0, .ref b)] 18 []) (S : St) (τ κ ω : Nu) (tk st be nu la mk mb ma mv : Int32) (bd : Bool) (hS : InS S) (hκ : sP S = true → κ = sK S) : JJ G K 44 953 (WG G ox om ax am qh qt qk sh nh (sP S) (sN S) τ (sK S) (nI (sL S)) (sT S) tk st be nu (sB S) (sZ S) (sC S) (sF S) (sP S) la (nI (sL S)) mk mb ma mv bd (sN S) κ ω (sF S) (sT S) (sB S) (sZ S) (sC S)) [(3, .int (nI (i))), (2, .ref om), (1, .ref ox), (0, .ref b)] 745 [] := by
  refine j_aload_n 745 cx 2 dL_law_745 rfl ?_
  refine j_aload_n 746 cx 3 dL_law_746 rfl ?_
  refine j_iload_n 747 cx 0 dL_law_747 rfl ?_
  refine j_iconst 748 cx 1 dL_law_748 (by decide) ?_
  refine j_iadd 749 cx dL_law_749 ?_
  refine j_top (nI (i + 1)) (nI_add i 1) ?_
  refine j_sld 750 cx hX hbl hbA (i + 1) rfl (by omega) (by omega) dL_law_750 ?_
  refine j_callV_i 751 cx 1 [0, 34, 1, 2, 3, 4, 5, 6, 7, 8, 9, 10, 11, 12, 13, 14] [.int (xs (i + 1))] (fun zu1 => WG G ox om ax am qh qt qk sh nh (sP S) (sN (sp_due (xs (i + 1)) S).2) zu1 (sK S) (nI (sL S)) (sT S) tk st be nu (sB S) (sZ S) (sC S) (sF (sp_due (xs (i + 1)) S).2) (sP S) la (nI (sL S)) mk mb ma mv bd (sN S) κ ω (sF S) (sT S) (sB S) (sZ S) (sC S)) (c_X5_due (kl K) G ox ax qh qt qk S τ hS.1.1 hS.1.2.1 (xs (i + 1))) gL_law_X5_due rfl rfl rfl ⟨rfl, by decide, by decide, rfl⟩ ⟨Nat.le_of_ble_eq_true rfl, Nat.le_of_ble_eq_true rfl⟩ ⟨Nat.le_of_ble_eq_true rfl, Nat.le_of_ble_eq_true rfl⟩ rfl (by decide) (ci := 4) 0 rfl rfl rfl rfl rfl (Nat.le_of_ble_eq_true rfl) dL_law_751 (fun zu1 => by simp only [WG, rep, List.cons_append, List.nil_append, List.set_cons_zero, List.set_cons_succ] <;> rfl) (fun zu1 zk9 => ?_)
  refine j_top ((sp_due (xs (i + 1)) S).1) rfl ?_
  refine j_aload_n 754 cx 1 dL_law_754 rfl ?_
  refine j_aload_n 755 cx 3 dL_law_755 rfl ?_
  refine j_iload_n 756 cx 0 dL_law_756 rfl ?_
  refine j_iconst 757 cx 1 dL_law_757 (by decide) ?_
  refine j_iadd 758 cx dL_law_758 ?_
  refine j_top (nI (i + 1)) (nI_add i 1) ?_
  refine j_sld 759 cx hX hbl hbA (i + 1) rfl (by omega) (by omega) dL_law_759 ?_
  refine j_callV_i 760 cx 1 [35, 36, 39, 38] [.int (xs (i + 1))] (fun zu2 => WG G ox om ax am qh qt qk sh nh (sP S) (sN (sp_due (xs (i + 1)) S).2) zu1 (sK S) (nI (sL S)) (sT S) tk st be nu (sB S) (sZ S) (sC S) (sF (sp_due (xs (i + 1)) S).2) (sP S) (zu2.1) (nI (sL S)) mk mb ma mv bd (sN (sp_due (xs (i + 1)) S).2) κ (zu2.2) (sF (sp_due (xs (i + 1)) S).2) (sT S) (sB S) (sZ S) (sC S)) (c_X6_due (kl K) G om am S la mk mb ma mv bd ω hS.1.1 hS.1.2.1 (xs (i + 1))) gL_law_X6_due rfl rfl rfl ⟨rfl, by decide, by decide, rfl⟩ ⟨Nat.le_of_ble_eq_true rfl, Nat.le_of_ble_eq_true rfl⟩ ⟨Nat.le_of_ble_eq_true rfl, Nat.le_of_ble_eq_true rfl⟩ rfl (by decide) (ci := 5) 0 rfl rfl rfl rfl rfl (Nat.le_of_ble_eq_true rfl) dL_law_760 (fun zu2 => by simp only [WG, rep, List.cons_append, List.nil_append, List.set_cons_zero, List.set_cons_succ] <;> rfl) (fun zu2 zk9 => ?_)
  refine j_top ((sp_due (xs (i + 1)) S).1) rfl ?_
  refine j_icmp_eq_T 763 cx 1171 dL_law_763 (by decide) rfl ?_
  refine j_iinc 1171 cx [(3, .int (nI (i + 6))), (2, .ref om), (1, .ref ox), (0, .ref b)] 0 (nI (i + 6)) dL_law_1171 rfl (iinc6 i) (by decide) rfl ?_
  refine j_goto 1174 cx 18 dL_law_1174 (by decide) ?_
  have hk := kp_due (xs (i + 1)) S
  have h9 := ih (sp_due (xs (i + 1)) S).2 zu1 κ (zu2.2) tk st be nu (zu2.1) mk mb ma mv bd (is_due (xs (i + 1)) hS) (fun q => by rw [hk.2.1] at q; rw [hk.1]; exact hκ q)
  rw [hk.1, hk.2.1, hk.2.2.1, hk.2.2.2.1, hk.2.2.2.2.1, hk.2.2.2.2.2.1, hk.2.2.2.2.2.2] at h9
  exact h9
set_option maxRecDepth 100000 in
set_option maxHeartbeats 4000000 in
theorem lc_feed {G : pG} {K : pK} (cx : CX G K cL_law RL wsL_law 4 room_1) {b L : Nat} {xs : Nat → Int32} (hX : va_X b L xs (ks K) (ks K).heap) (hbl : b < (ks K).heap.size) (hbA : ¬ kA K b) (hL : L ≤ 3072) (ox om : Nat) (ax am qh qt qk sh nh : Nat → Nat) (i : Nat) (hi : i + 6 ≤ L) (ih : ∀ (S : St) (τ κ ω : Nu) (tk st be nu la mk mb ma mv : Int32) (bd : Bool), InS S → (sP S = true → κ = sK S) → JJ G K 44 953 (WG G ox om ax am qh qt qk sh nh (sP S) (sN S) τ (sK S) (nI (sL S)) (sT S) tk st be nu (sB S) (sZ S) (sC S) (sF S) (sP S) la (nI (sL S)) mk mb ma mv bd (sN S) κ ω (sF S) (sT S) (sB S) (sZ S) (sC S)) [(3, .int (nI (i + 6))), (2, .ref om), (1, .ref ox), (0, .ref b)] 18 []) (S : St) (τ κ ω : Nu) (tk st be nu la mk mb ma mv : Int32) (bd : Bool) (hS : InS S) (hκ : sP S = true → κ = sK S) : JJ G K 44 953 (WG G ox om ax am qh qt qk sh nh (sP S) (sN S) τ (sK S) (nI (sL S)) (sT S) tk st be nu (sB S) (sZ S) (sC S) (sF S) (sP S) la (nI (sL S)) mk mb ma mv bd (sN S) κ ω (sF S) (sT S) (sB S) (sZ S) (sC S)) [(3, .int (nI (i))), (2, .ref om), (1, .ref ox), (0, .ref b)] 768 [] := by
  refine j_aload_n 768 cx 2 dL_law_768 rfl ?_
  refine j_aload_n 769 cx 3 dL_law_769 rfl ?_
  refine j_iload_n 770 cx 0 dL_law_770 rfl ?_
  refine j_iconst 771 cx 1 dL_law_771 (by decide) ?_
  refine j_iadd 772 cx dL_law_772 ?_
  refine j_top (nI (i + 1)) (nI_add i 1) ?_
  refine j_sld 773 cx hX hbl hbA (i + 1) rfl (by omega) (by omega) dL_law_773 ?_
  refine j_aload_n 774 cx 3 dL_law_774 rfl ?_
  refine j_iload_n 775 cx 0 dL_law_775 rfl ?_
  refine j_iconst 776 cx 2 dL_law_776 (by decide) ?_
  refine j_iadd 777 cx dL_law_777 ?_
  refine j_top (nI (i + 2)) (nI_add i 2) ?_
  refine j_sld 778 cx hX hbl hbA (i + 2) rfl (by omega) (by omega) dL_law_778 ?_
  refine j_callV_i 779 cx 2 [0, 34, 22, 23] [.int (xs (i + 1)), .int (xs (i + 2))] (fun zu1 => WG G ox om ax am qh qt qk sh nh (sP S) (sN S) τ (sK S) (nI (sL (sp_feed (xs (i + 1)) (xs (i + 2)) S).2)) (sT ((sp_feed (xs (i + 1)) (xs (i + 2)) S).2)) tk st be nu (sB S) (sZ S) (sC S) (sF (sp_feed (xs (i + 1)) (xs (i + 2)) S).2) (sP S) la (nI (sL S)) mk mb ma mv bd (sN S) κ ω (sF S) (sT S) (sB S) (sZ S) (sC S)) (c_X5_feed (kl K) G ox ax S hS.2.2.2.1 (xs (i + 1)) (xs (i + 2))) gL_law_X5_feed rfl rfl rfl ⟨rfl, by decide, by decide, rfl⟩ ⟨Nat.le_of_ble_eq_true rfl, Nat.le_of_ble_eq_true rfl⟩ ⟨Nat.le_of_ble_eq_true rfl, Nat.le_of_ble_eq_true rfl⟩ rfl (by decide) (ci := 4) 0 rfl rfl rfl rfl rfl (Nat.le_of_ble_eq_true rfl) dL_law_779 (fun zu1 => by simp only [WG, rep, List.cons_append, List.nil_append, List.set_cons_zero, List.set_cons_succ] <;> rfl) (fun zu1 zk9 => ?_)
  refine j_top ((sp_feed (xs (i + 1)) (xs (i + 2)) S).1) rfl ?_
  refine j_aload_n 782 cx 1 dL_law_782 rfl ?_
  refine j_aload_n 783 cx 3 dL_law_783 rfl ?_
  refine j_iload_n 784 cx 0 dL_law_784 rfl ?_
  refine j_iconst 785 cx 1 dL_law_785 (by decide) ?_
  refine j_iadd 786 cx dL_law_786 ?_
  refine j_top (nI (i + 1)) (nI_add i 1) ?_
  refine j_sld 787 cx hX hbl hbA (i + 1) rfl (by omega) (by omega) dL_law_787 ?_
  refine j_aload_n 788 cx 3 dL_law_788 rfl ?_
  refine j_iload_n 789 cx 0 dL_law_789 rfl ?_
  refine j_iconst 790 cx 2 dL_law_790 (by decide) ?_
  refine j_iadd 791 cx dL_law_791 ?_
  refine j_top (nI (i + 2)) (nI_add i 2) ?_
  refine j_sld 792 cx hX hbl hbA (i + 2) rfl (by omega) (by omega) dL_law_792 ?_
  refine j_callV_i 793 cx 2 [35, 39, 40] [.int (xs (i + 1)), .int (xs (i + 2))] (fun zu2 => WG G ox om ax am qh qt qk sh nh (sP S) (sN S) τ (sK S) (nI (sL (sp_feed (xs (i + 1)) (xs (i + 2)) S).2)) (sT ((sp_feed (xs (i + 1)) (xs (i + 2)) S).2)) tk st be nu (sB S) (sZ S) (sC S) (sF (sp_feed (xs (i + 1)) (xs (i + 2)) S).2) (sP S) la (nI (sL (sp_feed (xs (i + 1)) (xs (i + 2)) S).2)) mk mb ma mv bd (sN S) κ ω (sF (sp_feed (xs (i + 1)) (xs (i + 2)) S).2) (sT (sp_feed (xs (i + 1)) (xs (i + 2)) S).2) (sB S) (sZ S) (sC S)) (c_X6_feed (kl K) G om am S la mk mb ma mv bd hS.2.2.2.1 (xs (i + 1)) (xs (i + 2))) gL_law_X6_feed rfl rfl rfl ⟨rfl, by decide, by decide, rfl⟩ ⟨Nat.le_of_ble_eq_true rfl, Nat.le_of_ble_eq_true rfl⟩ ⟨Nat.le_of_ble_eq_true rfl, Nat.le_of_ble_eq_true rfl⟩ rfl (by decide) (ci := 5) 0 rfl rfl rfl rfl rfl (Nat.le_of_ble_eq_true rfl) dL_law_793 (fun zu2 => by simp only [WG, rep, List.cons_append, List.nil_append, List.set_cons_zero, List.set_cons_succ] <;> rfl) (fun zu2 zk9 => ?_)
  refine j_top ((sp_feed (xs (i + 1)) (xs (i + 2)) S).1) rfl ?_
  refine j_icmp_eq_T 796 cx 1171 dL_law_796 (by decide) rfl ?_
  refine j_iinc 1171 cx [(3, .int (nI (i + 6))), (2, .ref om), (1, .ref ox), (0, .ref b)] 0 (nI (i + 6)) dL_law_1171 rfl (iinc6 i) (by decide) rfl ?_
  refine j_goto 1174 cx 18 dL_law_1174 (by decide) ?_
  have hk := kp_feed (xs (i + 1)) (xs (i + 2)) S
  have h9 := ih (sp_feed (xs (i + 1)) (xs (i + 2)) S).2 τ κ ω tk st be nu la mk mb ma mv bd (is_feed (xs (i + 1)) (xs (i + 2)) hS) (fun q => by rw [hk.2.2.1] at q; rw [hk.2.1]; exact hκ q)
  rw [hk.1, hk.2.1, hk.2.2.1, hk.2.2.2.1, hk.2.2.2.2.1, hk.2.2.2.2.2] at h9
  exact h9
set_option maxRecDepth 100000 in
set_option maxHeartbeats 4000000 in
theorem lc_wipe {G : pG} {K : pK} (cx : CX G K cL_law RL wsL_law 4 room_1) {b L : Nat} {xs : Nat → Int32} (hX : va_X b L xs (ks K) (ks K).heap) (hbl : b < (ks K).heap.size) (hbA : ¬ kA K b) (hL : L ≤ 3072) (ox om : Nat) (ax am qh qt qk sh nh : Nat → Nat) (i : Nat) (hi : i + 6 ≤ L) (ih : ∀ (S : St) (τ κ ω : Nu) (tk st be nu la mk mb ma mv : Int32) (bd : Bool), InS S → (sP S = true → κ = sK S) → JJ G K 44 953 (WG G ox om ax am qh qt qk sh nh (sP S) (sN S) τ (sK S) (nI (sL S)) (sT S) tk st be nu (sB S) (sZ S) (sC S) (sF S) (sP S) la (nI (sL S)) mk mb ma mv bd (sN S) κ ω (sF S) (sT S) (sB S) (sZ S) (sC S)) [(3, .int (nI (i + 6))), (2, .ref om), (1, .ref ox), (0, .ref b)] 18 []) (S : St) (τ κ ω : Nu) (tk st be nu la mk mb ma mv : Int32) (bd : Bool) (hS : InS S) (hκ : sP S = true → κ = sK S) : JJ G K 44 953 (WG G ox om ax am qh qt qk sh nh (sP S) (sN S) τ (sK S) (nI (sL S)) (sT S) tk st be nu (sB S) (sZ S) (sC S) (sF S) (sP S) la (nI (sL S)) mk mb ma mv bd (sN S) κ ω (sF S) (sT S) (sB S) (sZ S) (sC S)) [(3, .int (nI (i))), (2, .ref om), (1, .ref ox), (0, .ref b)] 801 [] := by
  refine j_aload_n 801 cx 2 dL_law_801 rfl ?_
  refine j_callV_i 802 cx 0 [0, 22] [] (fun zu1 => WG G ox om ax am qh qt qk sh nh (sP S) (sN S) τ (sK S) (nI (sL (sp_wipe S).2)) (sT S) tk st be nu (sB S) (sZ S) (sC S) (sF S) (sP S) la (nI (sL S)) mk mb ma mv bd (sN S) κ ω (sF S) (sT S) (sB S) (sZ S) (sC S)) (c_X5_wipe (kl K) G ox ax qh qt qk S τ hS.1.1 hS.1.2.1 ) gL_law_X5_wipe rfl rfl rfl ⟨rfl, by decide, by decide, rfl⟩ ⟨Nat.le_of_ble_eq_true rfl, Nat.le_of_ble_eq_true rfl⟩ ⟨Nat.le_of_ble_eq_true rfl, Nat.le_of_ble_eq_true rfl⟩ rfl (by decide) (ci := 4) 0 rfl rfl rfl rfl rfl (Nat.le_of_ble_eq_true rfl) dL_law_802 (fun zu1 => by simp only [WG, rep, List.cons_append, List.nil_append, List.set_cons_zero, List.set_cons_succ] <;> rfl) (fun zu1 zk9 => ?_)
  refine j_top ((sp_wipe S).1) rfl ?_
  refine j_aload_n 805 cx 1 dL_law_805 rfl ?_
  refine j_callV_i 806 cx 0 [35] [] (fun zu2 => WG G ox om ax am qh qt qk sh nh (sP S) (sN S) τ (sK S) (nI (sL (sp_wipe S).2)) (sT S) tk st be nu (sB S) (sZ S) (sC S) (sF S) (sP S) la (nI (sL (sp_wipe S).2)) mk mb ma mv bd (sN S) κ ω (sF S) (sT S) (sB S) (sZ S) (sC S)) (c_X6_wipe (kl K) G om am S la mk mb ma mv bd ω hS.1.1 hS.1.2.1 ) gL_law_X6_wipe rfl rfl rfl ⟨rfl, by decide, by decide, rfl⟩ ⟨Nat.le_of_ble_eq_true rfl, Nat.le_of_ble_eq_true rfl⟩ ⟨Nat.le_of_ble_eq_true rfl, Nat.le_of_ble_eq_true rfl⟩ rfl (by decide) (ci := 5) 0 rfl rfl rfl rfl rfl (Nat.le_of_ble_eq_true rfl) dL_law_806 (fun zu2 => by simp only [WG, rep, List.cons_append, List.nil_append, List.set_cons_zero, List.set_cons_succ] <;> rfl) (fun zu2 zk9 => ?_)
  refine j_top ((sp_wipe S).1) rfl ?_
  refine j_icmp_eq_T 809 cx 1171 dL_law_809 (by decide) rfl ?_
  refine j_iinc 1171 cx [(3, .int (nI (i + 6))), (2, .ref om), (1, .ref ox), (0, .ref b)] 0 (nI (i + 6)) dL_law_1171 rfl (iinc6 i) (by decide) rfl ?_
  refine j_goto 1174 cx 18 dL_law_1174 (by decide) ?_
  have hk := kp_wipe S
  have h9 := ih (sp_wipe S).2 τ κ ω tk st be nu la mk mb ma mv bd (is_wipe hS) (fun q => by rw [hk.2.2.1] at q; rw [hk.2.1]; exact hκ q)
  rw [hk.1, hk.2.1, hk.2.2.1, hk.2.2.2.1, hk.2.2.2.2.1, hk.2.2.2.2.2.1, hk.2.2.2.2.2.2.1, hk.2.2.2.2.2.2.2] at h9
  exact h9
