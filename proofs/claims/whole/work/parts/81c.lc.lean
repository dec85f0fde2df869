set_option maxRecDepth 100000 in
set_option maxHeartbeats 4000000 in
theorem lc_done {G : pG} {K : pK} (cx : CX G K cL_law RL wsL_law 4 room_1) {b L : Nat} {xs : Nat → Int32} (hX : va_X b L xs (ks K) (ks K).heap) (hbl : b < (ks K).heap.size) (hbA : ¬ kA K b) (hL : L ≤ 3072) (ox om : Nat) (ax am qh qt qk sh nh : Nat → Nat) (i : Nat) (hi : i + 6 ≤ L) (ih : ∀ (S : St) (τ κ ω : Nu) (tk st be nu la mk mb ma mv : Int32) (bd : Bool), InS S → (sP S = true → κ = sK S) → JJ G K 44 953 (WG G ox om ax am qh qt qk sh nh (sP S) (sN S) τ (sK S) (nI (sL S)) (sT S) tk st be nu (sB S) (sZ S) (sC S) (sF S) (sP S) la (nI (sL S)) mk mb ma mv bd (sN S) κ ω (sF S) (sT S) (sB S) (sZ S) (sC S)) [(3, .int (nI (i + 6))), (2, .ref om), (1, .ref ox), (0, .ref b)] 18 []) (S : St) (τ κ ω : Nu) (tk st be nu la mk mb ma mv : Int32) (bd : Bool) (hS : InS S) (hκ : sP S = true → κ = sK S) : JJ G K 44 953 (WG G ox om ax am qh qt qk sh nh (sP S) (sN S) τ (sK S) (nI (sL S)) (sT S) tk st be nu (sB S) (sZ S) (sC S) (sF S) (sP S) la (nI (sL S)) mk mb ma mv bd (sN S) κ ω (sF S) (sT S) (sB S) (sZ S) (sC S)) [(3, .int (nI (i))), (2, .ref om), (1, .ref ox), (0, .ref b)] 568 [] := by
  refine j_aload_n 568 cx 2 dL_law_568 rfl ?_
  refine j_aload_n 569 cx 3 dL_law_569 rfl ?_
  refine j_iload_n 570 cx 0 dL_law_570 rfl ?_
  refine j_iconst 571 cx 1 dL_law_571 (by decide) ?_
  refine j_iadd 572 cx dL_law_572 ?_
  refine j_top (nI (i + 1)) (nI_add i 1) ?_
  refine j_sld 573 cx hX hbl hbA (i + 1) rfl (by omega) (by omega) dL_law_573 ?_
  refine j_callV_i 574 cx 1 [0, 34, 1, 2, 3, 4, 5, 6, 7, 8, 9, 10, 11, 12, 13, 14] [.int (xs (i + 1))] (fun zu1 => WG G ox om ax am qh qt qk sh nh (sP S) (sN (sp_done (xs (i + 1)) S).2) zu1 (sK S) (nI (sL S)) (sT S) tk st be nu (sB S) (sZ S) (sC S) (sF (sp_done (xs (i + 1)) S).2) (sP S) la (nI (sL S)) mk mb ma mv bd (sN S) κ ω (sF S) (sT S) (sB S) (sZ S) (sC S)) (c_X5_done (kl K) G ox ax qh qt qk S τ hS.1.1 hS.1.2.1 (xs (i + 1))) gL_law_X5_done rfl rfl rfl ⟨rfl, by decide, by decide, rfl⟩ ⟨Nat.le_of_ble_eq_true rfl, Nat.le_of_ble_eq_true rfl⟩ ⟨Nat.le_of_ble_eq_true rfl, Nat.le_of_ble_eq_true rfl⟩ rfl (by decide) (ci := 4) 0 rfl rfl rfl rfl rfl (Nat.le_of_ble_eq_true rfl) dL_law_574 (fun zu1 => by simp only [WG, rep, List.cons_append, List.nil_append, List.set_cons_zero, List.set_cons_succ] <;> rfl) (fun zu1 zk9 => ?_)
  refine j_top ((sp_done (xs (i + 1)) S).1) rfl ?_
  refine j_aload_n 577 cx 1 dL_law_577 rfl ?_
  refine j_aload_n 578 cx 3 dL_law_578 rfl ?_
  refine j_iload_n 579 cx 0 dL_law_579 rfl ?_
  refine j_iconst 580 cx 1 dL_law_580 (by decide) ?_
  refine j_iadd 581 cx dL_law_581 ?_
  refine j_top (nI (i + 1)) (nI_add i 1) ?_
  refine j_sld 582 cx hX hbl hbA (i + 1) rfl (by omega) (by omega) dL_law_582 ?_
  refine j_callV_i 583 cx 1 [35, 36, 39, 38] [.int (xs (i + 1))] (fun zu2 => WG G ox om ax am qh qt qk sh nh (sP S) (sN (sp_done (xs (i + 1)) S).2) zu1 (sK S) (nI (sL S)) (sT S) tk st be nu (sB S) (sZ S) (sC S) (sF (sp_done (xs (i + 1)) S).2) (sP S) (zu2.1) (nI (sL S)) mk mb ma mv bd (sN (sp_done (xs (i + 1)) S).2) κ (zu2.2) (sF (sp_done (xs (i + 1)) S).2) (sT S) (sB S) (sZ S) (sC S)) (c_X6_done (kl K) G om am S la mk mb ma mv bd ω hS.1.1 hS.1.2.1 (xs (i + 1))) gL_law_X6_done rfl rfl rfl ⟨rfl, by decide, by decide, rfl⟩ ⟨Nat.le_of_ble_eq_true rfl, Nat.le_of_ble_eq_true rfl⟩ ⟨Nat.le_of_ble_eq_true rfl, Nat.le_of_ble_eq_true rfl⟩ rfl (by decide) (ci := 5) 0 rfl rfl rfl rfl rfl (Nat.le_of_ble_eq_true rfl) dL_law_583 (fun zu2 => by simp only [WG, rep, List.cons_append, List.nil_append, List.set_cons_zero, List.set_cons_succ] <;> rfl) (fun zu2 zk9 => ?_)
  refine j_top ((sp_done (xs (i + 1)) S).1) rfl ?_
  refine j_icmp_eq_T 586 cx 1171 dL_law_586 (by decide) rfl ?_
  refine j_iinc 1171 cx [(3, .int (nI (i + 6))), (2, .ref om), (1, .ref ox), (0, .ref b)] 0 (nI (i + 6)) dL_law_1171 rfl (iinc6 i) (by decide) rfl ?_
  refine j_goto 1174 cx 18 dL_law_1174 (by decide) ?_
  have hk := kp_done (xs (i + 1)) S
  have h9 := ih (sp_done (xs (i + 1)) S).2 zu1 κ (zu2.2) tk st be nu (zu2.1) mk mb ma mv bd (is_done (xs (i + 1)) hS) (fun q => by rw [hk.2.1] at q; rw [hk.1]; exact hκ q)
  rw [hk.1, hk.2.1, hk.2.2.1, hk.2.2.2.1, hk.2.2.2.2.1, hk.2.2.2.2.2.1, hk.2.2.2.2.2.2] at h9
  exact h9
set_option maxRecDepth 100000 in
set_option maxHeartbeats 4000000 in
theorem lc_all {G : pG} {K : pK} (cx : CX G K cL_law RL wsL_law 4 room_1) {b L : Nat} {xs : Nat → Int32} (hX : va_X b L xs (ks K) (ks K).heap) (hbl : b < (ks K).heap.size) (hbA : ¬ kA K b) (hL : L ≤ 3072) (ox om : Nat) (ax am qh qt qk sh nh : Nat → Nat) (i : Nat) (hi : i + 6 ≤ L) (ih : ∀ (S : St) (τ κ ω : Nu) (tk st be nu la mk mb ma mv : Int32) (bd : Bool), InS S → (sP S = true → κ = sK S) → JJ G K 44 953 (WG G ox om ax am qh qt qk sh nh (sP S) (sN S) τ (sK S) (nI (sL S)) (sT S) tk st be nu (sB S) (sZ S) (sC S) (sF S) (sP S) la (nI (sL S)) mk mb ma mv bd (sN S) κ ω (sF S) (sT S) (sB S) (sZ S) (sC S)) [(3, .int (nI (i + 6))), (2, .ref om), (1, .ref ox), (0, .ref b)] 18 []) (S : St) (τ κ ω : Nu) (tk st be nu la mk mb ma mv : Int32) (bd : Bool) (hS : InS S) (hκ : sP S = true → κ = sK S) : JJ G K 44 953 (WG G ox om ax am qh qt qk sh nh (sP S) (sN S) τ (sK S) (nI (sL S)) (sT S) tk st be nu (sB S) (sZ S) (sC S) (sF S) (sP S) la (nI (sL S)) mk mb ma mv bd (sN S) κ ω (sF S) (sT S) (sB S) (sZ S) (sC S)) [(3, .int (nI (i))), (2, .ref om), (1, .ref ox), (0, .ref b)] 591 [] := by
  refine j_aload_n 591 cx 2 dL_law_591 rfl ?_
  refine j_callV_i 592 cx 0 [0, 34, 1, 2, 3, 4, 5, 6, 7, 8, 9, 10, 11, 12, 13, 14] [] (fun zu1 => WG G ox om ax am qh qt qk sh nh (sP S) (sN (sp_all S).2) zu1 (sK S) (nI (sL S)) (sT S) tk st be nu (sB S) (sZ S) (sC S) (sF (sp_all S).2) (sP S) la (nI (sL S)) mk mb ma mv bd (sN S) κ ω (sF S) (sT S) (sB S) (sZ S) (sC S)) (c_X5_all (kl K) G ox ax qh qt qk S τ hS.1.1 hS.1.2.1 ) gL_law_X5_all rfl rfl rfl ⟨rfl, by decide, by decide, rfl⟩ ⟨Nat.le_of_ble_eq_true rfl, Nat.le_of_ble_eq_true rfl⟩ ⟨Nat.le_of_ble_eq_true rfl, Nat.le_of_ble_eq_true rfl⟩ rfl (by decide) (ci := 4) 0 rfl rfl rfl rfl rfl (Nat.le_of_ble_eq_true rfl) dL_law_592 (fun zu1 => by simp only [WG, rep, List.cons_append, List.nil_append, List.set_cons_zero, List.set_cons_succ] <;> rfl) (fun zu1 zk9 => ?_)
  refine j_top ((sp_all S).1) rfl ?_
  refine j_aload_n 595 cx 1 dL_law_595 rfl ?_
  refine j_callV_i 596 cx 0 [35, 36, 39, 38] [] (fun zu2 => WG G ox om ax am qh qt qk sh nh (sP S) (sN (sp_all S).2) zu1 (sK S) (nI (sL S)) (sT S) tk st be nu (sB S) (sZ S) (sC S) (sF (sp_all S).2) (sP S) (zu2.1) (nI (sL S)) mk mb ma mv bd (sN (sp_all S).2) κ (zu2.2) (sF (sp_all S).2) (sT S) (sB S) (sZ S) (sC S)) (c_X6_all (kl K) G om am S la mk mb ma mv bd ω hS.1.1 hS.1.2.1 ) gL_law_X6_all rfl rfl rfl ⟨rfl, by decide, by decide, rfl⟩ ⟨Nat.le_of_ble_eq_true rfl, Nat.le_of_ble_eq_true rfl⟩ ⟨Nat.le_of_ble_eq_true rfl, Nat.le_of_ble_eq_true rfl⟩ rfl (by decide) (ci := 5) 0 rfl rfl rfl rfl rfl (Nat.le_of_ble_eq_true rfl) dL_law_596 (fun zu2 => by simp only [WG, rep, List.cons_append, List.nil_append, List.set_cons_zero, List.set_cons_succ] <;> rfl) (fun zu2 zk9 => ?_)
  refine j_top ((sp_all S).1) rfl ?_
  refine j_icmp_eq_T 599 cx 1171 dL_law_599 (by decide) rfl ?_
  refine j_iinc 1171 cx [(3, .int (nI (i + 6))), (2, .ref om), (1, .ref ox), (0, .ref b)] 0 (nI (i + 6)) dL_law_1171 rfl (iinc6 i) (by decide) rfl ?_
  refine j_goto 1174 cx 18 dL_law_1174 (by decide) ?_
  have hk := kp_all S
  have h9 := ih (sp_all S).2 zu1 κ (zu2.2) tk st be nu (zu2.1) mk mb ma mv bd (is_all hS) (fun q => by rw [hk.2.1] at q; rw [hk.1]; exact hκ q)
  rw [hk.1, hk.2.1, hk.2.2.1, hk.2.2.2.1, hk.2.2.2.2.1, hk.2.2.2.2.2.1, hk.2.2.2.2.2.2] at h9
  exact h9
set_option maxRecDepth 100000 in
set_option maxHeartbeats 4000000 in
theorem lc_played {G : pG} {K : pK} (cx : CX G K cL_law RL wsL_law 4 room_1) {b L : Nat} {xs : Nat → Int32} (hX : va_X b L xs (ks K) (ks K).heap) (hbl : b < (ks K).heap.size) (hbA : ¬ kA K b) (hL : L ≤ 3072) (ox om : Nat) (ax am qh qt qk sh nh : Nat → Nat) (i : Nat) (hi : i + 6 ≤ L) (ih : ∀ (S : St) (τ κ ω : Nu) (tk st be nu la mk mb ma mv : Int32) (bd : Bool), InS S → (sP S = true → κ = sK S) → JJ G K 44 953 (WG G ox om ax am qh qt qk sh nh (sP S) (sN S) τ (sK S) (nI (sL S)) (sT S) tk st be nu (sB S) (sZ S) (sC S) (sF S) (sP S) la (nI (sL S)) mk mb ma mv bd (sN S) κ ω (sF S) (sT S) (sB S) (sZ S) (sC S)) [(3, .int (nI (i + 6))), (2, .ref om), (1, .ref ox), (0, .ref b)] 18 []) (S : St) (τ κ ω : Nu) (tk st be nu la mk mb ma mv : Int32) (bd : Bool) (hS : InS S) (hκ : sP S = true → κ = sK S) : JJ G K 44 953 (WG G ox om ax am qh qt qk sh nh (sP S) (sN S) τ (sK S) (nI (sL S)) (sT S) tk st be nu (sB S) (sZ S) (sC S) (sF S) (sP S) la (nI (sL S)) mk mb ma mv bd (sN S) κ ω (sF S) (sT S) (sB S) (sZ S) (sC S)) [(3, .int (nI (i))), (2, .ref om), (1, .ref ox), (0, .ref b)] 604 [] := by
  refine j_aload_n 604 cx 2 dL_law_604 rfl ?_
  refine j_aload_n 605 cx 3 dL_law_605 rfl ?_
  refine j_iload_n 606 cx 0 dL_law_606 rfl ?_
  refine j_iconst 607 cx 1 dL_law_607 (by decide) ?_
  refine j_iadd 608 cx dL_law_608 ?_
  refine j_top (nI (i + 1)) (nI_add i 1) ?_
  refine j_sld 609 cx hX hbl hbA (i + 1) rfl (by omega) (by omega) dL_law_609 ?_
  refine j_callV_i 610 cx 1 [0, 34, 1, 2, 3, 4, 5, 6, 7, 8, 9, 10, 11, 12, 13, 14] [.int (xs (i + 1))] (fun zu1 => WG G ox om ax am qh qt qk sh nh (sP S) (sN (sp_played (xs (i + 1)) S).2) zu1 (sK S) (nI (sL S)) (sT S) tk st be nu (sB S) (sZ S) (sC S) (sF (sp_played (xs (i + 1)) S).2) (sP S) la (nI (sL S)) mk mb ma mv bd (sN S) κ ω (sF S) (sT S) (sB S) (sZ S) (sC S)) (c_X5_played (kl K) G ox ax qh qt qk S τ hS.1.1 hS.1.2.1 (xs (i + 1))) gL_law_X5_played rfl rfl rfl ⟨rfl, by decide, by decide, rfl⟩ ⟨Nat.le_of_ble_eq_true rfl, Nat.le_of_ble_eq_true rfl⟩ ⟨Nat.le_of_ble_eq_true rfl, Nat.le_of_ble_eq_true rfl⟩ rfl (by decide) (ci := 4) 0 rfl rfl rfl rfl rfl (Nat.le_of_ble_eq_true rfl) dL_law_610 (fun zu1 => by simp only [WG, rep, List.cons_append, List.nil_append, List.set_cons_zero, List.set_cons_succ] <;> rfl) (fun zu1 zk9 => ?_)
  refine j_top ((sp_played (xs (i + 1)) S).1) rfl ?_
  refine j_aload_n 613 cx 1 dL_law_613 rfl ?_
  refine j_aload_n 614 cx 3 dL_law_614 rfl ?_
  refine j_iload_n 615 cx 0 dL_law_615 rfl ?_
  refine j_iconst 616 cx 1 dL_law_616 (by decide) ?_
  refine j_iadd 617 cx dL_law_617 ?_
  refine j_top (nI (i + 1)) (nI_add i 1) ?_
  refine j_sld 618 cx hX hbl hbA (i + 1) rfl (by omega) (by omega) dL_law_618 ?_
  refine j_callV_i 619 cx 1 [35, 36, 39, 38] [.int (xs (i + 1))] (fun zu2 => WG G ox om ax am qh qt qk sh nh (sP S) (sN (sp_played (xs (i + 1)) S).2) zu1 (sK S) (nI (sL S)) (sT S) tk st be nu (sB S) (sZ S) (sC S) (sF (sp_played (xs (i + 1)) S).2) (sP S) (zu2.1) (nI (sL S)) mk mb ma mv bd (sN (sp_played (xs (i + 1)) S).2) κ (zu2.2) (sF (sp_played (xs (i + 1)) S).2) (sT S) (sB S) (sZ S) (sC S)) (c_X6_played (kl K) G om am S la mk mb ma mv bd ω hS.1.1 hS.1.2.1 (xs (i + 1))) gL_law_X6_played rfl rfl rfl ⟨rfl, by decide, by decide, rfl⟩ ⟨Nat.le_of_ble_eq_true rfl, Nat.le_of_ble_eq_true rfl⟩ ⟨Nat.le_of_ble_eq_true rfl, Nat.le_of_ble_eq_true rfl⟩ rfl (by decide) (ci := 5) 0 rfl rfl rfl rfl rfl (Nat.le_of_ble_eq_true rfl) dL_law_619 (fun zu2 => by simp only [WG, rep, List.cons_append, List.nil_append, List.set_cons_zero, List.set_cons_succ] <;> rfl) (fun zu2 zk9 => ?_)
  refine j_top ((sp_played (xs (i + 1)) S).1) rfl ?_
  refine j_icmp_eq_T 622 cx 1171 dL_law_622 (by decide) rfl ?_
  refine j_iinc 1171 cx [(3, .int (nI (i + 6))), (2, .ref om), (1, .ref ox), (0, .ref b)] 0 (nI (i + 6)) dL_law_1171 rfl (iinc6 i) (by decide) rfl ?_
  refine j_goto 1174 cx 18 dL_law_1174 (by decide) ?_
  have hk := kp_played (xs (i + 1)) S
  have h9 := ih (sp_played (xs (i + 1)) S).2 zu1 κ (zu2.2) tk st be nu (zu2.1) mk mb ma mv bd (is_played (xs (i + 1)) hS) (fun q => by rw [hk.2.1] at q; rw [hk.1]; exact hκ q)
  rw [hk.1, hk.2.1, hk.2.2.1, hk.2.2.2.1, hk.2.2.2.2.1, hk.2.2.2.2.2.1, hk.2.2.2.2.2.2] at h9
  exact h9
set_option maxRecDepth 100000 in
set_option maxHeartbeats 4000000 in
theorem lc_later {G : pG} {K : pK} (cx : CX G K cL_law RL wsL_law 4 room_1) {b L : Nat} {xs : Nat → Int32} (hX : va_X b L xs (ks K) (ks K).heap) (hbl : b < (ks K).heap.size) (hbA : ¬ kA K b) (hL : L ≤ 3072) (ox om : Nat) (ax am qh qt qk sh nh : Nat → Nat) (i : Nat) (hi : i + 6 ≤ L) (ih : ∀ (S : St) (τ κ ω : Nu) (tk st be nu la mk mb ma mv : Int32) (bd : Bool), InS S → (sP S = true → κ = sK S) → JJ G K 44 953 (WG G ox om ax am qh qt qk sh nh (sP S) (sN S) τ (sK S) (nI (sL S)) (sT S) tk st be nu (sB S) (sZ S) (sC S) (sF S) (sP S) la (nI (sL S)) mk mb ma mv bd (sN S) κ ω (sF S) (sT S) (sB S) (sZ S) (sC S)) [(3, .int (nI (i + 6))), (2, .ref om), (1, .ref ox), (0, .ref b)] 18 []) (S : St) (τ κ ω : Nu) (tk st be nu la mk mb ma mv : Int32) (bd : Bool) (hS : InS S) (hκ : sP S = true → κ = sK S) : JJ G K 44 953 (WG G ox om ax am qh qt qk sh nh (sP S) (sN S) τ (sK S) (nI (sL S)) (sT S) tk st be nu (sB S) (sZ S) (sC S) (sF S) (sP S) la (nI (sL S)) mk mb ma mv bd (sN S) κ ω (sF S) (sT S) (sB S) (sZ S) (sC S)) [(3, .int (nI (i))), (2, .ref om), (1, .ref ox), (0, .ref b)] 627 [] := by
  refine j_aload_n 627 cx 2 dL_law_627 rfl ?_
  refine j_aload_n 628 cx 3 dL_law_628 rfl ?_
  refine j_iload_n 629 cx 0 dL_law_629 rfl ?_
  refine j_iconst 630 cx 1 dL_law_630 (by decide) ?_
  refine j_iadd 631 cx dL_law_631 ?_
  refine j_top (nI (i + 1)) (nI_add i 1) ?_
  refine j_sld 632 cx hX hbl hbA (i + 1) rfl (by omega) (by omega) dL_law_632 ?_
  refine j_callV_i 633 cx 1 [0, 34, 1, 2, 3, 4, 5, 6, 7, 8, 9, 10, 11, 12, 13, 14] [.int (xs (i + 1))] (fun zu1 => WG G ox om ax am qh qt qk sh nh (sP S) (sN (sp_later (xs (i + 1)) S).2) zu1 (sK S) (nI (sL S)) (sT S) tk st be nu (sB S) (sZ S) (sC S) (sF (sp_later (xs (i + 1)) S).2) (sP S) la (nI (sL S)) mk mb ma mv bd (sN S) κ ω (sF S) (sT S) (sB S) (sZ S) (sC S)) (c_X5_later (kl K) G ox ax qh qt qk S τ hS.1.1 hS.1.2.1 (xs (i + 1))) gL_law_X5_later rfl rfl rfl ⟨rfl, by decide, by decide, rfl⟩ ⟨Nat.le_of_ble_eq_true rfl, Nat.le_of_ble_eq_true rfl⟩ ⟨Nat.le_of_ble_eq_true rfl, Nat.le_of_ble_eq_true rfl⟩ rfl (by decide) (ci := 4) 0 rfl rfl rfl rfl rfl (Nat.le_of_ble_eq_true rfl) dL_law_633 (fun zu1 => by simp only [WG, rep, List.cons_append, List.nil_append, List.set_cons_zero, List.set_cons_succ] <;> rfl) (fun zu1 zk9 => ?_)
  refine j_top ((sp_later (xs (i + 1)) S).1) rfl ?_
  refine j_aload_n 636 cx 1 dL_law_636 rfl ?_
  refine j_aload_n 637 cx 3 dL_law_637 rfl ?_
  refine j_iload_n 638 cx 0 dL_law_638 rfl ?_
  refine j_iconst 639 cx 1 dL_law_639 (by decide) ?_
  refine j_iadd 640 cx dL_law_640 ?_
  refine j_top (nI (i + 1)) (nI_add i 1) ?_
  refine j_sld 641 cx hX hbl hbA (i + 1) rfl (by omega) (by omega) dL_law_641 ?_
  refine j_callV_i 642 cx 1 [35, 36, 39, 38] [.int (xs (i + 1))] (fun zu2 => WG G ox om ax am qh qt qk sh nh (sP S) (sN (sp_later (xs (i + 1)) S).2) zu1 (sK S) (nI (sL S)) (sT S) tk st be nu (sB S) (sZ S) (sC S) (sF (sp_later (xs (i + 1)) S).2) (sP S) (zu2.1) (nI (sL S)) mk mb ma mv bd (sN (sp_later (xs (i + 1)) S).2) κ (zu2.2) (sF (sp_later (xs (i + 1)) S).2) (sT S) (sB S) (sZ S) (sC S)) (c_X6_later (kl K) G om am S la mk mb ma mv bd ω hS.1.1 hS.1.2.1 (xs (i + 1))) gL_law_X6_later rfl rfl rfl ⟨rfl, by decide, by decide, rfl⟩ ⟨Nat.le_of_ble_eq_true rfl, Nat.le_of_ble_eq_true rfl⟩ ⟨Nat.le_of_ble_eq_true rfl, Nat.le_of_ble_eq_true rfl⟩ rfl (by decide) (ci := 5) 0 rfl rfl rfl rfl rfl (Nat.le_of_ble_eq_true rfl) dL_law_642 (fun zu2 => by simp only [WG, rep, List.cons_append, List.nil_append, List.set_cons_zero, List.set_cons_succ] <;> rfl) (fun zu2 zk9 => ?_)
  refine j_top ((sp_later (xs (i + 1)) S).1) rfl ?_
  refine j_icmp_eq_T 645 cx 1171 dL_law_645 (by decide) rfl ?_
  refine j_iinc 1171 cx [(3, .int (nI (i + 6))), (2, .ref om), (1, .ref ox), (0, .ref b)] 0 (nI (i + 6)) dL_law_1171 rfl (iinc6 i) (by decide) rfl ?_
  refine j_goto 1174 cx 18 dL_law_1174 (by decide) ?_
  have hk := kp_later (xs (i + 1)) S
  have h9 := ih (sp_later (xs (i + 1)) S).2 zu1 κ (zu2.2) tk st be nu (zu2.1) mk mb ma mv bd (is_later (xs (i + 1)) hS) (fun q => by rw [hk.2.1] at q; rw [hk.1]; exact hκ q)
  rw [hk.1, hk.2.1, hk.2.2.1, hk.2.2.2.1, hk.2.2.2.2.1, hk.2.2.2.2.2.1, hk.2.2.2.2.2.2] at h9
  exact h9
set_option maxRecDepth 100000 in
set_option maxHeartbeats 4000000 in
theorem lc_kind {G : pG} {K : pK} (cx : CX G K cL_law RL wsL_law 4 room_1) {b L : Nat} {xs : Nat → Int32} (hX : va_X b L xs (ks K) (ks K).heap) (hbl : b < (ks K).heap.size) (hbA : ¬ kA K b) (hL : L ≤ 3072) (ox om : Nat) (ax am qh qt qk sh nh : Nat → Nat) (i : Nat) (hi : i + 6 ≤ L) (ih : ∀ (S : St) (τ κ ω : Nu) (tk st be nu la mk mb ma mv : Int32) (bd : Bool), InS S → (sP S = true → κ = sK S) → JJ G K 44 953 (WG G ox om ax am qh qt qk sh nh (sP S) (sN S) τ (sK S) (nI (sL S)) (sT S) tk st be nu (sB S) (sZ S) (sC S) (sF S) (sP S) la (nI (sL S)) mk mb ma mv bd (sN S) κ ω (sF S) (sT S) (sB S) (sZ S) (sC S)) [(3, .int (nI (i + 6))), (2, .ref om), (1, .ref ox), (0, .ref b)] 18 []) (S : St) (τ κ ω : Nu) (tk st be nu la mk mb ma mv : Int32) (bd : Bool) (hS : InS S) (hκ : sP S = true → κ = sK S) : JJ G K 44 953 (WG G ox om ax am qh qt qk sh nh (sP S) (sN S) τ (sK S) (nI (sL S)) (sT S) tk st be nu (sB S) (sZ S) (sC S) (sF S) (sP S) la (nI (sL S)) mk mb ma mv bd (sN S) κ ω (sF S) (sT S) (sB S) (sZ S) (sC S)) [(3, .int (nI (i))), (2, .ref om), (1, .ref ox), (0, .ref b)] 650 [] := by
  refine j_aload_n 650 cx 2 dL_law_650 rfl ?_
  refine j_aload_n 651 cx 3 dL_law_651 rfl ?_
  refine j_iload_n 652 cx 0 dL_law_652 rfl ?_
  refine j_iconst 653 cx 1 dL_law_653 (by decide) ?_
  refine j_iadd 654 cx dL_law_654 ?_
  refine j_top (nI (i + 1)) (nI_add i 1) ?_
  refine j_sld 655 cx hX hbl hbA (i + 1) rfl (by omega) (by omega) dL_law_655 ?_
  refine j_callV_i 656 cx 1 [0, 34, 1, 2, 3, 4, 5, 6, 7, 8, 9, 10, 11, 12, 13, 14] [.int (xs (i + 1))] (fun zu1 => WG G ox om ax am qh qt qk sh nh (sP S) (sN (sp_kind (xs (i + 1)) S).2) zu1 (sK S) (nI (sL S)) (sT S) tk st be nu (sB S) (sZ S) (sC S) (sF (sp_kind (xs (i + 1)) S).2) (sP S) la (nI (sL S)) mk mb ma mv bd (sN S) κ ω (sF S) (sT S) (sB S) (sZ S) (sC S)) (c_X5_kind (kl K) G ox ax qh qt qk S τ hS.1.1 hS.1.2.1 (xs (i + 1))) gL_law_X5_kind rfl rfl rfl ⟨rfl, by decide, by decide, rfl⟩ ⟨Nat.le_of_ble_eq_true rfl, Nat.le_of_ble_eq_true rfl⟩ ⟨Nat.le_of_ble_eq_true rfl, Nat.le_of_ble_eq_true rfl⟩ rfl (by decide) (ci := 4) 0 rfl rfl rfl rfl rfl (Nat.le_of_ble_eq_true rfl) dL_law_656 (fun zu1 => by simp only [WG, rep, List.cons_append, List.nil_append, List.set_cons_zero, List.set_cons_succ] <;> rfl) (fun zu1 zk9 => ?_)
  refine j_top ((sp_kind (xs (i + 1)) S).1) rfl ?_
  refine j_aload_n 659 cx 1 dL_law_659 rfl ?_
  refine j_aload_n 660 cx 3 dL_law_660 rfl ?_
  refine j_iload_n 661 cx 0 dL_law_661 rfl ?_
  refine j_iconst 662 cx 1 dL_law_662 (by decide) ?_
  refine j_iadd 663 cx dL_law_663 ?_
  refine j_top (nI (i + 1)) (nI_add i 1) ?_
  refine j_sld 664 cx hX hbl hbA (i + 1) rfl (by omega) (by omega) dL_law_664 ?_
  refine j_callV_i 665 cx 1 [35, 36, 39, 38] [.int (xs (i + 1))] (fun zu2 => WG G ox om ax am qh qt qk sh nh (sP S) (sN (sp_kind (xs (i + 1)) S).2) zu1 (sK S) (nI (sL S)) (sT S) tk st be nu (sB S) (sZ S) (sC S) (sF (sp_kind (xs (i + 1)) S).2) (sP S) (zu2.1) (nI (sL S)) mk mb ma mv bd (sN (sp_kind (xs (i + 1)) S).2) κ (zu2.2) (sF (sp_kind (xs (i + 1)) S).2) (sT S) (sB S) (sZ S) (sC S)) (c_X6_kind (kl K) G om am S la mk mb ma mv bd ω hS.1.1 hS.1.2.1 (xs (i + 1))) gL_law_X6_kind rfl rfl rfl ⟨rfl, by decide, by decide, rfl⟩ ⟨Nat.le_of_ble_eq_true rfl, Nat.le_of_ble_eq_true rfl⟩ ⟨Nat.le_of_ble_eq_true rfl, Nat.le_of_ble_eq_true rfl⟩ rfl (by decide) (ci := 5) 0 rfl rfl rfl rfl rfl (Nat.le_of_ble_eq_true rfl) dL_law_665 (fun zu2 => by simp only [WG, rep, List.cons_append, List.nil_append, List.set_cons_zero, List.set_cons_succ] <;> rfl) (fun zu2 zk9 => ?_)
  refine j_top ((sp_kind (xs (i + 1)) S).1) rfl ?_
  refine j_icmp_eq_T 668 cx 1171 dL_law_668 (by decide) rfl ?_
  refine j_iinc 1171 cx [(3, .int (nI (i + 6))), (2, .ref om), (1, .ref ox), (0, .ref b)] 0 (nI (i + 6)) dL_law_1171 rfl (iinc6 i) (by decide) rfl ?_
  refine j_goto 1174 cx 18 dL_law_1174 (by decide) ?_
  have hk := kp_kind (xs (i + 1)) S
  have h9 := ih (sp_kind (xs (i + 1)) S).2 zu1 κ (zu2.2) tk st be nu (zu2.1) mk mb ma mv bd (is_kind (xs (i + 1)) hS) (fun q => by rw [hk.2.1] at q; rw [hk.1]; exact hκ q)
  rw [hk.1, hk.2.1, hk.2.2.1, hk.2.2.2.1, hk.2.2.2.2.1, hk.2.2.2.2.2.1, hk.2.2.2.2.2.2] at h9
  exact h9
set_option maxRecDepth 100000 in
set_option maxHeartbeats 4000000 in
theorem lc_bears {G : pG} {K : pK} (cx : CX G K cL_law RL wsL_law 4 room_1) {b L : Nat} {xs : Nat → Int32} (hX : va_X b L xs (ks K) (ks K).heap) (hbl : b < (ks K).heap.size) (hbA : ¬ kA K b) (hL : L ≤ 3072) (ox om : Nat) (ax am qh qt qk sh nh : Nat → Nat) (i : Nat) (hi : i + 6 ≤ L) (ih : ∀ (S : St) (τ κ ω : Nu) (tk st be nu la mk mb ma mv : Int32) (bd : Bool), InS S → (sP S = true → κ = sK S) → JJ G K 44 953 (WG G ox om ax am qh qt qk sh nh (sP S) (sN S) τ (sK S) (nI (sL S)) (sT S) tk st be nu (sB S) (sZ S) (sC S) (sF S) (sP S) la (nI (sL S)) mk mb ma mv bd (sN S) κ ω (sF S) (sT S) (sB S) (sZ S) (sC S)) [(3, .int (nI (i + 6))), (2, .ref om), (1, .ref ox), (0, .ref b)] 18 []) (S : St) (τ κ ω : Nu) (tk st be nu la mk mb ma mv : Int32) (bd : Bool) (hS : InS S) (hκ : sP S = true → κ = sK S) : JJ G K 44 953 (WG G ox om ax am qh qt qk sh nh (sP S) (sN S) τ (sK S) (nI (sL S)) (sT S) tk st be nu (sB S) (sZ S) (sC S) (sF S) (sP S) la (nI (sL S)) mk mb ma mv bd (sN S) κ ω (sF S) (sT S) (sB S) (sZ S) (sC S)) [(3, .int (nI (i))), (2, .ref om), (1, .ref ox), (0, .ref b)] 673 [] := by
  refine j_aload_n 673 cx 2 dL_law_673 rfl ?_
  refine j_aload_n 674 cx 3 dL_law_674 rfl ?_
  refine j_iload_n 675 cx 0 dL_law_675 rfl ?_
  refine j_iconst 676 cx 1 dL_law_676 (by decide) ?_
  refine j_iadd 677 cx dL_law_677 ?_
  refine j_top (nI (i + 1)) (nI_add i 1) ?_
  refine j_sld 678 cx hX hbl hbA (i + 1) rfl (by omega) (by omega) dL_law_678 ?_
  refine j_callV_i 679 cx 1 [0, 34, 1, 2, 3, 4, 5, 6, 7, 8, 9, 10, 11, 12, 13, 14] [.int (xs (i + 1))] (fun zu1 => WG G ox om ax am qh qt qk sh nh (sP S) (sN (sp_bears (xs (i + 1)) S).2) zu1 (sK S) (nI (sL S)) (sT S) tk st be nu (sB S) (sZ S) (sC S) (sF (sp_bears (xs (i + 1)) S).2) (sP S) la (nI (sL S)) mk mb ma mv bd (sN S) κ ω (sF S) (sT S) (sB S) (sZ S) (sC S)) (c_X5_bears (kl K) G ox ax qh qt qk S τ hS.1.1 hS.1.2.1 (xs (i + 1))) gL_law_X5_bears rfl rfl rfl ⟨rfl, by decide, by decide, rfl⟩ ⟨Nat.le_of_ble_eq_true rfl, Nat.le_of_ble_eq_true rfl⟩ ⟨Nat.le_of_ble_eq_true rfl, Nat.le_of_ble_eq_true rfl⟩ rfl (by decide) (ci := 4) 0 rfl rfl rfl rfl rfl (Nat.le_of_ble_eq_true rfl) dL_law_679 (fun zu1 => by simp only [WG, rep, List.cons_append, List.nil_append, List.set_cons_zero, List.set_cons_succ] <;> rfl) (fun zu1 zk9 => ?_)
  refine j_top ((sp_bears (xs (i + 1)) S).1) rfl ?_
  refine j_aload_n 682 cx 1 dL_law_682 rfl ?_
  refine j_aload_n 683 cx 3 dL_law_683 rfl ?_
  refine j_iload_n 684 cx 0 dL_law_684 rfl ?_
  refine j_iconst 685 cx 1 dL_law_685 (by decide) ?_
  refine j_iadd 686 cx dL_law_686 ?_
  refine j_top (nI (i + 1)) (nI_add i 1) ?_
  refine j_sld 687 cx hX hbl hbA (i + 1) rfl (by omega) (by omega) dL_law_687 ?_
  refine j_callV_i 688 cx 1 [35, 36, 39, 38] [.int (xs (i + 1))] (fun zu2 => WG G ox om ax am qh qt qk sh nh (sP S) (sN (sp_bears (xs (i + 1)) S).2) zu1 (sK S) (nI (sL S)) (sT S) tk st be nu (sB S) (sZ S) (sC S) (sF (sp_bears (xs (i + 1)) S).2) (sP S) (zu2.1) (nI (sL S)) mk mb ma mv bd (sN (sp_bears (xs (i + 1)) S).2) κ (zu2.2) (sF (sp_bears (xs (i + 1)) S).2) (sT S) (sB S) (sZ S) (sC S)) (c_X6_bears (kl K) G om am S la mk mb ma mv bd ω hS.1.1 hS.1.2.1 (xs (i + 1))) gL_law_X6_bears rfl rfl rfl ⟨rfl, by decide, by decide, rfl⟩ ⟨Nat.le_of_ble_eq_true rfl, Nat.le_of_ble_eq_true rfl⟩ ⟨Nat.le_of_ble_eq_true rfl, Nat.le_of_ble_eq_true rfl⟩ rfl (by decide) (ci := 5) 0 rfl rfl rfl rfl rfl (Nat.le_of_ble_eq_true rfl) dL_law_688 (fun zu2 => by simp only [WG, rep, List.cons_append, List.nil_append, List.set_cons_zero, List.set_cons_succ] <;> rfl) (fun zu2 zk9 => ?_)
  refine j_top ((sp_bears (xs (i + 1)) S).1) rfl ?_
  refine j_icmp_eq_T 691 cx 1171 dL_law_691 (by decide) rfl ?_
  refine j_iinc 1171 cx [(3, .int (nI (i + 6))), (2, .ref om), (1, .ref ox), (0, .ref b)] 0 (nI (i + 6)) dL_law_1171 rfl (iinc6 i) (by decide) rfl ?_
  refine j_goto 1174 cx 18 dL_law_1174 (by decide) ?_
  have hk := kp_bears (xs (i + 1)) S
  have h9 := ih (sp_bears (xs (i + 1)) S).2 zu1 κ (zu2.2) tk st be nu (zu2.1) mk mb ma mv bd (is_bears (xs (i + 1)) hS) (fun q => by rw [hk.2.1] at q; rw [hk.1]; exact hκ q)
  rw [hk.1, hk.2.1, hk.2.2.1, hk.2.2.2.1, hk.2.2.2.2.1, hk.2.2.2.2.2.1, hk.2.2.2.2.2.2] at h9
  exact h9
