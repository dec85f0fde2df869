set_option maxRecDepth 100000 in
set_option maxHeartbeats 4000000 in
theorem lc_read {G : pG} {K : pK} (cx : CX G K cL_law RL wsL_law 4 room_1) {b L : Nat} {xs : Nat → Int32} (hX : va_X b L xs (ks K) (ks K).heap) (hbl : b < (ks K).heap.size) (hbA : ¬ kA K b) (hL : L ≤ 3072) (ox om : Nat) (ax am qh qt qk sh nh : Nat → Nat) (i : Nat) (hi : i + 6 ≤ L) (ih : ∀ (S : St) (τ κ ω : Nu) (tk st be nu la mk mb ma mv : Int32) (bd : Bool), InS S → (sP S = true → κ = sK S) → JJ G K 44 953 (WG G ox om ax am qh qt qk sh nh (sP S) (sN S) τ (sK S) (nI (sL S)) (sT S) tk st be nu (sB S) (sZ S) (sC S) (sF S) (sP S) la (nI (sL S)) mk mb ma mv bd (sN S) κ ω (sF S) (sT S) (sB S) (sZ S) (sC S)) [(3, .int (nI (i + 6))), (2, .ref om), (1, .ref ox), (0, .ref b)] 18 []) (S : St) (τ κ ω : Nu) (tk st be nu la mk mb ma mv : Int32) (bd : Bool) (hS : InS S) (hκ : sP S = true → κ = sK S) : JJ G K 44 953 (WG G ox om ax am qh qt qk sh nh (sP S) (sN S) τ (sK S) (nI (sL S)) (sT S) tk st be nu (sB S) (sZ S) (sC S) (sF S) (sP S) la (nI (sL S)) mk mb ma mv bd (sN S) κ ω (sF S) (sT S) (sB S) (sZ S) (sC S)) [(3, .int (nI (i))), (2, .ref om), (1, .ref ox), (0, .ref b)] 1053 [] := by
  refine j_aload_n 1053 cx 2 dL_law_1053 rfl ?_
  refine j_aload_n 1054 cx 3 dL_law_1054 rfl ?_
  refine j_iload_n 1055 cx 0 dL_law_1055 rfl ?_
  refine j_iconst 1056 cx 1 dL_law_1056 (by decide) ?_
  refine j_iadd 1057 cx dL_law_1057 ?_
  refine j_top (nI (i + 1)) (nI_add i 1) ?_
  refine j_sld 1058 cx hX hbl hbA (i + 1) rfl (by omega) (by omega) dL_law_1058 ?_
  refine j_aload_n 1059 cx 3 dL_law_1059 rfl ?_
  refine j_iload_n 1060 cx 0 dL_law_1060 rfl ?_
  refine j_iconst 1061 cx 2 dL_law_1061 (by decide) ?_
  refine j_iadd 1062 cx dL_law_1062 ?_
  refine j_top (nI (i + 2)) (nI_add i 2) ?_
  refine j_sld 1063 cx hX hbl hbA (i + 2) rfl (by omega) (by omega) dL_law_1063 ?_
  refine j_callV_i 1064 cx 2 [0, 34, 25, 1, 2, 3, 4, 5, 6, 7, 8, 9, 10, 11, 12, 13, 14, 26, 27, 28, 29, 30, 31, 32, 33] [.int (xs (i + 1)), .int (xs (i + 2))] (fun zu1 => WG G ox om ax am qh qt qk sh nh (sP S) (sN (sp_read (xs (i + 1)) (xs (i + 2)) S).2) zu1 (sK S) (nI (sL S)) (sT S) tk st be nu (sB ((sp_read (xs (i + 1)) (xs (i + 2)) S).2)) (sZ ((sp_read (xs (i + 1)) (xs (i + 2)) S).2)) (sC ((sp_read (xs (i + 1)) (xs (i + 2)) S).2)) (sF (sp_read (xs (i + 1)) (xs (i + 2)) S).2) (sP S) la (nI (sL S)) mk mb ma mv bd (sN S) κ ω (sF S) (sT S) (sB S) (sZ S) (sC S)) (a_X5_read (kl K) G ox ax qh qt sh nh S τ hS (xs (i + 1)) (xs (i + 2))) gL_law_X5_read rfl rfl rfl ⟨rfl, by decide, by decide, rfl⟩ ⟨Nat.le_of_ble_eq_true rfl, Nat.le_of_ble_eq_true rfl⟩ ⟨Nat.le_of_ble_eq_true rfl, Nat.le_of_ble_eq_true rfl⟩ rfl (by decide) (ci := 4) 0 rfl rfl rfl rfl rfl (Nat.le_of_ble_eq_true rfl) dL_law_1064 (fun zu1 => by simp only [WG, rep, List.cons_append, List.nil_append, List.set_cons_zero, List.set_cons_succ] <;> rfl) (fun zu1 zk9 => ?_)
  refine j_top ((sp_read (xs (i + 1)) (xs (i + 2)) S).1) rfl ?_
  refine j_aload_n 1067 cx 1 dL_law_1067 rfl ?_
  refine j_aload_n 1068 cx 3 dL_law_1068 rfl ?_
  refine j_iload_n 1069 cx 0 dL_law_1069 rfl ?_
  refine j_iconst 1070 cx 1 dL_law_1070 (by decide) ?_
  refine j_iadd 1071 cx dL_law_1071 ?_
  refine j_top (nI (i + 1)) (nI_add i 1) ?_
  refine j_sld 1072 cx hX hbl hbA (i + 1) rfl (by omega) (by omega) dL_law_1072 ?_
  refine j_aload_n 1073 cx 3 dL_law_1073 rfl ?_
  refine j_iload_n 1074 cx 0 dL_law_1074 rfl ?_
  refine j_iconst 1075 cx 2 dL_law_1075 (by decide) ?_
  refine j_iadd 1076 cx dL_law_1076 ?_
  refine j_top (nI (i + 2)) (nI_add i 2) ?_
  refine j_sld 1077 cx hX hbl hbA (i + 2) rfl (by omega) (by omega) dL_law_1077 ?_
  refine j_callV_i 1078 cx 2 [35, 36, 39, 38, 41, 42, 43] [.int (xs (i + 1)), .int (xs (i + 2))] (fun zu2 => WG G ox om ax am qh qt qk sh nh (sP S) (sN (sp_read (xs (i + 1)) (xs (i + 2)) S).2) zu1 (sK S) (nI (sL S)) (sT S) tk st be nu (sB ((sp_read (xs (i + 1)) (xs (i + 2)) S).2)) (sZ ((sp_read (xs (i + 1)) (xs (i + 2)) S).2)) (sC ((sp_read (xs (i + 1)) (xs (i + 2)) S).2)) (sF (sp_read (xs (i + 1)) (xs (i + 2)) S).2) (sP S) (zu2.1) (nI (sL S)) mk mb ma mv bd (sN (sp_read (xs (i + 1)) (xs (i + 2)) S).2) κ (zu2.2) (sF (sp_read (xs (i + 1)) (xs (i + 2)) S).2) (sT S) (sB (sp_read (xs (i + 1)) (xs (i + 2)) S).2) (sZ (sp_read (xs (i + 1)) (xs (i + 2)) S).2) (sC (sp_read (xs (i + 1)) (xs (i + 2)) S).2)) (a_X6_read (kl K) G om am S la mk mb ma mv bd ω hS (xs (i + 1)) (xs (i + 2))) gL_law_X6_read rfl rfl rfl ⟨rfl, by decide, by decide, rfl⟩ ⟨Nat.le_of_ble_eq_true rfl, Nat.le_of_ble_eq_true rfl⟩ ⟨Nat.le_of_ble_eq_true rfl, Nat.le_of_ble_eq_true rfl⟩ rfl (by decide) (ci := 5) 0 rfl rfl rfl rfl rfl (Nat.le_of_ble_eq_true rfl) dL_law_1078 (fun zu2 => by simp only [WG, rep, List.cons_append, List.nil_append, List.set_cons_zero, List.set_cons_succ] <;> rfl) (fun zu2 zk9 => ?_)
  refine j_top ((sp_read (xs (i + 1)) (xs (i + 2)) S).1) rfl ?_
  refine j_icmp_eq_T 1081 cx 1171 dL_law_1081 (by decide) rfl ?_
  refine j_iinc 1171 cx [(3, .int (nI (i + 6))), (2, .ref om), (1, .ref ox), (0, .ref b)] 0 (nI (i + 6)) dL_law_1171 rfl (iinc6 i) (by decide) rfl ?_
  refine j_goto 1174 cx 18 dL_law_1174 (by decide) ?_
  have hc := shC_read (xs (i + 1)) (xs (i + 2)) S
  have hk := kp_sh hc
  have h9 := ih (sp_read (xs (i + 1)) (xs (i + 2)) S).2 zu1 κ (zu2.2) tk st be nu (zu2.1) mk mb ma mv bd (is_read (xs (i + 1)) (xs (i + 2)) hS) (fun q => by rw [hk.2.1] at q; rw [hk.1]; exact hκ q)
  rw [hk.1, hk.2.1, hk.2.2.1, hk.2.2.2] at h9
  exact h9
set_option maxRecDepth 100000 in
set_option maxHeartbeats 4000000 in
theorem lc_image {G : pG} {K : pK} (cx : CX G K cL_law RL wsL_law 4 room_1) {b L : Nat} {xs : Nat → Int32} (hX : va_X b L xs (ks K) (ks K).heap) (hbl : b < (ks K).heap.size) (hbA : ¬ kA K b) (hL : L ≤ 3072) (ox om : Nat) (ax am qh qt qk sh nh : Nat → Nat) (i : Nat) (hi : i + 6 ≤ L) (ih : ∀ (S : St) (τ κ ω : Nu) (tk st be nu la mk mb ma mv : Int32) (bd : Bool), InS S → (sP S = true → κ = sK S) → JJ G K 44 953 (WG G ox om ax am qh qt qk sh nh (sP S) (sN S) τ (sK S) (nI (sL S)) (sT S) tk st be nu (sB S) (sZ S) (sC S) (sF S) (sP S) la (nI (sL S)) mk mb ma mv bd (sN S) κ ω (sF S) (sT S) (sB S) (sZ S) (sC S)) [(3, .int (nI (i + 6))), (2, .ref om), (1, .ref ox), (0, .ref b)] 18 []) (S : St) (τ κ ω : Nu) (tk st be nu la mk mb ma mv : Int32) (bd : Bool) (hS : InS S) (hκ : sP S = true → κ = sK S) : JJ G K 44 953 (WG G ox om ax am qh qt qk sh nh (sP S) (sN S) τ (sK S) (nI (sL S)) (sT S) tk st be nu (sB S) (sZ S) (sC S) (sF S) (sP S) la (nI (sL S)) mk mb ma mv bd (sN S) κ ω (sF S) (sT S) (sB S) (sZ S) (sC S)) [(3, .int (nI (i))), (2, .ref om), (1, .ref ox), (0, .ref b)] 1086 [] := by
  refine j_aload_n 1086 cx 2 dL_law_1086 rfl ?_
  refine j_callV_i 1087 cx 0 [0, 1, 2, 3, 4, 5, 6, 7, 15, 16, 17, 18, 19, 20, 21] [] (fun zu1 => WG G ox om ax am qh qt qk sh nh (sP (sp_image S).2) (sN S) τ (sK (sp_image S).2) (nI (sL S)) (sT S) tk st be nu (sB S) (sZ S) (sC S) (sF S) (sP S) la (nI (sL S)) mk mb ma mv bd (sN S) κ ω (sF S) (sT S) (sB S) (sZ S) (sC S)) (c_X5_image (kl K) G ox ax qh qt qk S τ hS.1.1 hS.1.2.1 ) gL_law_X5_image rfl rfl rfl ⟨rfl, by decide, by decide, rfl⟩ ⟨Nat.le_of_ble_eq_true rfl, Nat.le_of_ble_eq_true rfl⟩ ⟨Nat.le_of_ble_eq_true rfl, Nat.le_of_ble_eq_true rfl⟩ rfl (by decide) (ci := 4) 0 rfl rfl rfl rfl rfl (Nat.le_of_ble_eq_true rfl) dL_law_1087 (fun zu1 => by simp only [WG, rep, List.cons_append, List.nil_append, List.set_cons_zero, List.set_cons_succ] <;> rfl) (fun zu1 zk9 => ?_)
  refine j_top ((sp_image S).1) rfl ?_
  refine j_aload_n 1090 cx 1 dL_law_1090 rfl ?_
  refine j_callV_i 1091 cx 0 [35, 36, 37] [] (fun zu2 => WG G ox om ax am qh qt qk sh nh (sP (sp_image S).2) (sN S) τ (sK (sp_image S).2) (nI (sL S)) (sT S) tk st be nu (sB S) (sZ S) (sC S) (sF S) (sP (sp_image S).2) la (nI (sL S)) mk mb ma mv bd (sN S) (sK (sp_image S).2) ω (sF S) (sT S) (sB S) (sZ S) (sC S)) (c_X6_imageK (kl K) G om am S κ la mk mb ma mv bd ω hS.1.1 hS.1.2.1) gL_law_X6_image rfl rfl rfl ⟨rfl, by decide, by decide, rfl⟩ ⟨Nat.le_of_ble_eq_true rfl, Nat.le_of_ble_eq_true rfl⟩ ⟨Nat.le_of_ble_eq_true rfl, Nat.le_of_ble_eq_true rfl⟩ rfl (by decide) (ci := 5) 0 rfl rfl rfl rfl rfl (Nat.le_of_ble_eq_true rfl) dL_law_1091 (fun zu2 => by simp only [WG, rep, List.cons_append, List.nil_append, List.set_cons_zero, List.set_cons_succ] <;> rfl) (fun zu2 zk9 => ?_)
  refine j_top ((sp_image S).1) rfl ?_
  refine j_icmp_eq_T 1094 cx 1171 dL_law_1094 (by decide) rfl ?_
  refine j_iinc 1171 cx [(3, .int (nI (i + 6))), (2, .ref om), (1, .ref ox), (0, .ref b)] 0 (nI (i + 6)) dL_law_1171 rfl (iinc6 i) (by decide) rfl ?_
  refine j_goto 1174 cx 18 dL_law_1174 (by decide) ?_
  have hk := kp_image S
  have h9 := ih (sp_image S).2 τ (sK (sp_image S).2) ω tk st be nu la mk mb ma mv bd (is_image hS) (fun _ => rfl)
  rw [hk.1, hk.2.1, hk.2.2.1, hk.2.2.2.1, hk.2.2.2.2.1, hk.2.2.2.2.2.1, hk.2.2.2.2.2.2] at h9
  exact h9
set_option maxRecDepth 100000 in
set_option maxHeartbeats 4000000 in
theorem lc_undo {G : pG} {K : pK} (cx : CX G K cL_law RL wsL_law 4 room_1) {b L : Nat} {xs : Nat → Int32} (hX : va_X b L xs (ks K) (ks K).heap) (hbl : b < (ks K).heap.size) (hbA : ¬ kA K b) (hL : L ≤ 3072) (ox om : Nat) (ax am qh qt qk sh nh : Nat → Nat) (i : Nat) (hi : i + 6 ≤ L) (ih : ∀ (S : St) (τ κ ω : Nu) (tk st be nu la mk mb ma mv : Int32) (bd : Bool), InS S → (sP S = true → κ = sK S) → JJ G K 44 953 (WG G ox om ax am qh qt qk sh nh (sP S) (sN S) τ (sK S) (nI (sL S)) (sT S) tk st be nu (sB S) (sZ S) (sC S) (sF S) (sP S) la (nI (sL S)) mk mb ma mv bd (sN S) κ ω (sF S) (sT S) (sB S) (sZ S) (sC S)) [(3, .int (nI (i + 6))), (2, .ref om), (1, .ref ox), (0, .ref b)] 18 []) (S : St) (τ κ ω : Nu) (tk st be nu la mk mb ma mv : Int32) (bd : Bool) (hS : InS S) (hκ : sP S = true → κ = sK S) : JJ G K 44 953 (WG G ox om ax am qh qt qk sh nh (sP S) (sN S) τ (sK S) (nI (sL S)) (sT S) tk st be nu (sB S) (sZ S) (sC S) (sF S) (sP S) la (nI (sL S)) mk mb ma mv bd (sN S) κ ω (sF S) (sT S) (sB S) (sZ S) (sC S)) [(3, .int (nI (i))), (2, .ref om), (1, .ref ox), (0, .ref b)] 1099 [] := by
  refine j_aload_n 1099 cx 2 dL_law_1099 rfl ?_
  refine j_callV_i 1100 cx 0 [0, 34, 1, 2, 3, 4, 5, 6, 7, 15, 16, 17, 18, 19, 20, 21] [] (fun zu1 => WG G ox om ax am qh qt qk sh nh (sP S) (sN (sp_undo S).2) τ (sK S) (nI (sL S)) (sT S) tk st be nu (sB S) (sZ S) (sC S) (sF (sp_undo S).2) (sP S) la (nI (sL S)) mk mb ma mv bd (sN S) κ ω (sF S) (sT S) (sB S) (sZ S) (sC S)) (c_X5_undo (kl K) G ox ax qh qt qk S τ hS.1.1 hS.1.2.1 ) gL_law_X5_undo rfl rfl rfl ⟨rfl, by decide, by decide, rfl⟩ ⟨Nat.le_of_ble_eq_true rfl, Nat.le_of_ble_eq_true rfl⟩ ⟨Nat.le_of_ble_eq_true rfl, Nat.le_of_ble_eq_true rfl⟩ rfl (by decide) (ci := 4) 0 rfl rfl rfl rfl rfl (Nat.le_of_ble_eq_true rfl) dL_law_1100 (fun zu1 => by simp only [WG, rep, List.cons_append, List.nil_append, List.set_cons_zero, List.set_cons_succ] <;> rfl) (fun zu1 zk9 => ?_)
  refine j_top ((sp_undo S).1) rfl ?_
  refine j_aload_n 1103 cx 1 dL_law_1103 rfl ?_
  refine j_callV_i 1104 cx 0 [35, 36, 37, 39] [] (fun zu2 => WG G ox om ax am qh qt qk sh nh (sP S) (sN (sp_undo S).2) τ (sK S) (nI (sL S)) (sT S) tk st be nu (sB S) (sZ S) (sC S) (sF (sp_undo S).2) (sP S) la (nI (sL S)) mk mb ma mv bd (sN (sp_undo S).2) κ ω (sF (sp_undo S).2) (sT S) (sB S) (sZ S) (sC S)) (c_X6_undoK (kl K) G om am S κ la mk mb ma mv bd ω hS.1.1 hS.1.2.1 hκ) gL_law_X6_undo rfl rfl rfl ⟨rfl, by decide, by decide, rfl⟩ ⟨Nat.le_of_ble_eq_true rfl, Nat.le_of_ble_eq_true rfl⟩ ⟨Nat.le_of_ble_eq_true rfl, Nat.le_of_ble_eq_true rfl⟩ rfl (by decide) (ci := 5) 0 rfl rfl rfl rfl rfl (Nat.le_of_ble_eq_true rfl) dL_law_1104 (fun zu2 => by simp only [WG, rep, List.cons_append, List.nil_append, List.set_cons_zero, List.set_cons_succ] <;> rfl) (fun zu2 zk9 => ?_)
  refine j_top ((sp_undo S).1) rfl ?_
  refine j_icmp_eq_T 1107 cx 1171 dL_law_1107 (by decide) rfl ?_
  refine j_iinc 1171 cx [(3, .int (nI (i + 6))), (2, .ref om), (1, .ref ox), (0, .ref b)] 0 (nI (i + 6)) dL_law_1171 rfl (iinc6 i) (by decide) rfl ?_
  refine j_goto 1174 cx 18 dL_law_1174 (by decide) ?_
  have hk := kp_undo S
  have h9 := ih (sp_undo S).2 τ κ ω tk st be nu la mk mb ma mv bd (is_undo hS) (fun q => by rw [hk.2.1] at q; rw [hk.1]; exact hκ q)
  rw [hk.1, hk.2.1, hk.2.2.1, hk.2.2.2.1, hk.2.2.2.2.1, hk.2.2.2.2.2.1, hk.2.2.2.2.2.2] at h9
  exact h9
set_option maxRecDepth 100000 in
set_option maxHeartbeats 4000000 in
theorem lc_tear {G : pG} {K : pK} (cx : CX G K cL_law RL wsL_law 4 room_1) {b L : Nat} {xs : Nat → Int32} (hX : va_X b L xs (ks K) (ks K).heap) (hbl : b < (ks K).heap.size) (hbA : ¬ kA K b) (hL : L ≤ 3072) (ox om : Nat) (ax am qh qt qk sh nh : Nat → Nat) (i : Nat) (hi : i + 6 ≤ L) (ih : ∀ (S : St) (τ κ ω : Nu) (tk st be nu la mk mb ma mv : Int32) (bd : Bool), InS S → (sP S = true → κ = sK S) → JJ G K 44 953 (WG G ox om ax am qh qt qk sh nh (sP S) (sN S) τ (sK S) (nI (sL S)) (sT S) tk st be nu (sB S) (sZ S) (sC S) (sF S) (sP S) la (nI (sL S)) mk mb ma mv bd (sN S) κ ω (sF S) (sT S) (sB S) (sZ S) (sC S)) [(3, .int (nI (i + 6))), (2, .ref om), (1, .ref ox), (0, .ref b)] 18 []) (S : St) (τ κ ω : Nu) (tk st be nu la mk mb ma mv : Int32) (bd : Bool) (hS : InS S) (hκ : sP S = true → κ = sK S) : JJ G K 44 953 (WG G ox om ax am qh qt qk sh nh (sP S) (sN S) τ (sK S) (nI (sL S)) (sT S) tk st be nu (sB S) (sZ S) (sC S) (sF S) (sP S) la (nI (sL S)) mk mb ma mv bd (sN S) κ ω (sF S) (sT S) (sB S) (sZ S) (sC S)) [(3, .int (nI (i))), (2, .ref om), (1, .ref ox), (0, .ref b)] 1112 [] := by
  refine j_aload_n 1112 cx 2 dL_law_1112 rfl ?_
  refine j_callV_i 1113 cx 0 [0] [] (fun zu1 => WG G ox om ax am qh qt qk sh nh (sP (sp_tear S).2) (sN S) τ (sK S) (nI (sL S)) (sT S) tk st be nu (sB S) (sZ S) (sC S) (sF S) (sP S) la (nI (sL S)) mk mb ma mv bd (sN S) κ ω (sF S) (sT S) (sB S) (sZ S) (sC S)) (c_X5_tear (kl K) G ox ax qh qt qk S τ hS.1.1 hS.1.2.1 ) gL_law_X5_tear rfl rfl rfl ⟨rfl, by decide, by decide, rfl⟩ ⟨Nat.le_of_ble_eq_true rfl, Nat.le_of_ble_eq_true rfl⟩ ⟨Nat.le_of_ble_eq_true rfl, Nat.le_of_ble_eq_true rfl⟩ rfl (by decide) (ci := 4) 0 rfl rfl rfl rfl rfl (Nat.le_of_ble_eq_true rfl) dL_law_1113 (fun zu1 => by simp only [WG, rep, List.cons_append, List.nil_append, List.set_cons_zero, List.set_cons_succ] <;> rfl) (fun zu1 zk9 => ?_)
  refine j_top ((sp_tear S).1) rfl ?_
  refine j_aload_n 1116 cx 1 dL_law_1116 rfl ?_
  refine j_callV_i 1117 cx 0 [35] [] (fun zu2 => WG G ox om ax am qh qt qk sh nh (sP (sp_tear S).2) (sN S) τ (sK S) (nI (sL S)) (sT S) tk st be nu (sB S) (sZ S) (sC S) (sF S) (sP (sp_tear S).2) la (nI (sL S)) mk mb ma mv bd (sN S) κ ω (sF S) (sT S) (sB S) (sZ S) (sC S)) (c_X6_tear (kl K) G om am S la mk mb ma mv bd ω hS.1.1 hS.1.2.1 ) gL_law_X6_tear rfl rfl rfl ⟨rfl, by decide, by decide, rfl⟩ ⟨Nat.le_of_ble_eq_true rfl, Nat.le_of_ble_eq_true rfl⟩ ⟨Nat.le_of_ble_eq_true rfl, Nat.le_of_ble_eq_true rfl⟩ rfl (by decide) (ci := 5) 0 rfl rfl rfl rfl rfl (Nat.le_of_ble_eq_true rfl) dL_law_1117 (fun zu2 => by simp only [WG, rep, List.cons_append, List.nil_append, List.set_cons_zero, List.set_cons_succ] <;> rfl) (fun zu2 zk9 => ?_)
  refine j_top ((sp_tear S).1) rfl ?_
  refine j_icmp_eq_T 1120 cx 1171 dL_law_1120 (by decide) rfl ?_
  refine j_iinc 1171 cx [(3, .int (nI (i + 6))), (2, .ref om), (1, .ref ox), (0, .ref b)] 0 (nI (i + 6)) dL_law_1171 rfl (iinc6 i) (by decide) rfl ?_
  refine j_goto 1174 cx 18 dL_law_1174 (by decide) ?_
  have hk := kp_tear S
  have h9 := ih (sp_tear S).2 τ κ ω tk st be nu la mk mb ma mv bd (is_tear hS) (fun q => absurd (show false = true from q) (by decide))
  rw [hk.1, hk.2.1, hk.2.2.1, hk.2.2.2.1, hk.2.2.2.2.1, hk.2.2.2.2.2.1, hk.2.2.2.2.2.2.1, hk.2.2.2.2.2.2.2] at h9
  exact h9
set_option maxRecDepth 100000 in
set_option maxHeartbeats 4000000 in
theorem lc_count {G : pG} {K : pK} (cx : CX G K cL_law RL wsL_law 4 room_1) {b L : Nat} {xs : Nat → Int32} (hX : va_X b L xs (ks K) (ks K).heap) (hbl : b < (ks K).heap.size) (hbA : ¬ kA K b) (hL : L ≤ 3072) (ox om : Nat) (ax am qh qt qk sh nh : Nat → Nat) (i : Nat) (hi : i + 6 ≤ L) (ih : ∀ (S : St) (τ κ ω : Nu) (tk st be nu la mk mb ma mv : Int32) (bd : Bool), InS S → (sP S = true → κ = sK S) → JJ G K 44 953 (WG G ox om ax am qh qt qk sh nh (sP S) (sN S) τ (sK S) (nI (sL S)) (sT S) tk st be nu (sB S) (sZ S) (sC S) (sF S) (sP S) la (nI (sL S)) mk mb ma mv bd (sN S) κ ω (sF S) (sT S) (sB S) (sZ S) (sC S)) [(3, .int (nI (i + 6))), (2, .ref om), (1, .ref ox), (0, .ref b)] 18 []) (S : St) (τ κ ω : Nu) (tk st be nu la mk mb ma mv : Int32) (bd : Bool) (hS : InS S) (hκ : sP S = true → κ = sK S) : JJ G K 44 953 (WG G ox om ax am qh qt qk sh nh (sP S) (sN S) τ (sK S) (nI (sL S)) (sT S) tk st be nu (sB S) (sZ S) (sC S) (sF S) (sP S) la (nI (sL S)) mk mb ma mv bd (sN S) κ ω (sF S) (sT S) (sB S) (sZ S) (sC S)) [(3, .int (nI (i))), (2, .ref om), (1, .ref ox), (0, .ref b)] 1125 [] := by
  refine j_aload_n 1125 cx 2 dL_law_1125 rfl ?_
  refine j_aload_n 1126 cx 3 dL_law_1126 rfl ?_
  refine j_iload_n 1127 cx 0 dL_law_1127 rfl ?_
  refine j_iconst 1128 cx 1 dL_law_1128 (by decide) ?_
  refine j_iadd 1129 cx dL_law_1129 ?_
  refine j_top (nI (i + 1)) (nI_add i 1) ?_
  refine j_sld 1130 cx hX hbl hbA (i + 1) rfl (by omega) (by omega) dL_law_1130 ?_
  refine j_callV_i 1131 cx 1 [0, 34, 1, 2, 3, 4, 5, 6, 7, 22] [.int (xs (i + 1))] (fun zu1 => WG G ox om ax am qh qt qk sh nh (sP S) (sN S) τ (sK S) (nI (sL S)) (sT S) tk st be nu (sB S) (sZ S) (sC S) (sF (sp_count (xs (i + 1)) S).2) (sP S) la (nI (sL S)) mk mb ma mv bd (sN S) κ ω (sF S) (sT S) (sB S) (sZ S) (sC S)) (c_X5_count (kl K) G ox ax qh qt qk S τ hS.1.1 hS.1.2.1 (xs (i + 1))) gL_law_X5_count rfl rfl rfl ⟨rfl, by decide, by decide, rfl⟩ ⟨Nat.le_of_ble_eq_true rfl, Nat.le_of_ble_eq_true rfl⟩ ⟨Nat.le_of_ble_eq_true rfl, Nat.le_of_ble_eq_true rfl⟩ rfl (by decide) (ci := 4) 0 rfl rfl rfl rfl rfl (Nat.le_of_ble_eq_true rfl) dL_law_1131 (fun zu1 => by simp only [WG, rep, List.cons_append, List.nil_append, List.set_cons_zero, List.set_cons_succ] <;> rfl) (fun zu1 zk9 => ?_)
  refine j_top ((sp_count (xs (i + 1)) S).1) rfl ?_
  refine j_aload_n 1134 cx 1 dL_law_1134 rfl ?_
  refine j_aload_n 1135 cx 3 dL_law_1135 rfl ?_
  refine j_iload_n 1136 cx 0 dL_law_1136 rfl ?_
  refine j_iconst 1137 cx 1 dL_law_1137 (by decide) ?_
  refine j_iadd 1138 cx dL_law_1138 ?_
  refine j_top (nI (i + 1)) (nI_add i 1) ?_
  refine j_sld 1139 cx hX hbl hbA (i + 1) rfl (by omega) (by omega) dL_law_1139 ?_
  refine j_callV_i 1140 cx 1 [35, 36, 39] [.int (xs (i + 1))] (fun zu2 => WG G ox om ax am qh qt qk sh nh (sP S) (sN S) τ (sK S) (nI (sL S)) (sT S) tk st be nu (sB S) (sZ S) (sC S) (sF (sp_count (xs (i + 1)) S).2) (sP S) la (nI (sL S)) mk mb ma mv bd (sN (sp_count (xs (i + 1)) S).2) κ ω (sF (sp_count (xs (i + 1)) S).2) (sT S) (sB S) (sZ S) (sC S)) (c_X6_count (kl K) G om am S la mk mb ma mv bd ω hS.1.1 hS.1.2.1 (xs (i + 1))) gL_law_X6_count rfl rfl rfl ⟨rfl, by decide, by decide, rfl⟩ ⟨Nat.le_of_ble_eq_true rfl, Nat.le_of_ble_eq_true rfl⟩ ⟨Nat.le_of_ble_eq_true rfl, Nat.le_of_ble_eq_true rfl⟩ rfl (by decide) (ci := 5) 0 rfl rfl rfl rfl rfl (Nat.le_of_ble_eq_true rfl) dL_law_1140 (fun zu2 => by simp only [WG, rep, List.cons_append, List.nil_append, List.set_cons_zero, List.set_cons_succ] <;> rfl) (fun zu2 zk9 => ?_)
  refine j_top ((sp_count (xs (i + 1)) S).1) rfl ?_
  refine j_icmp_eq_T 1143 cx 1171 dL_law_1143 (by decide) rfl ?_
  refine j_iinc 1171 cx [(3, .int (nI (i + 6))), (2, .ref om), (1, .ref ox), (0, .ref b)] 0 (nI (i + 6)) dL_law_1171 rfl (iinc6 i) (by decide) rfl ?_
  refine j_goto 1174 cx 18 dL_law_1174 (by decide) ?_
  have hk := kp_count (xs (i + 1)) S
  have h9 := ih (sp_count (xs (i + 1)) S).2 τ κ ω tk st be nu la mk mb ma mv bd (is_count (xs (i + 1)) hS) (fun q => by rw [hk.2.1] at q; rw [hk.1]; exact hκ q)
  rw [hk.1, hk.2.1, hk.2.2.1, hk.2.2.2.1, hk.2.2.2.2.1, hk.2.2.2.2.2.1, hk.2.2.2.2.2.2] at h9
  rw [kn_count (xs (i + 1)) S] at h9 ⊢
  exact h9
set_option maxRecDepth 100000 in
set_option maxHeartbeats 4000000 in
theorem lc_status {G : pG} {K : pK} (cx : CX G K cL_law RL wsL_law 4 room_1) {b L : Nat} {xs : Nat → Int32} (hX : va_X b L xs (ks K) (ks K).heap) (hbl : b < (ks K).heap.size) (hbA : ¬ kA K b) (hL : L ≤ 3072) (ox om : Nat) (ax am qh qt qk sh nh : Nat → Nat) (i : Nat) (hi : i + 6 ≤ L) (ih : ∀ (S : St) (τ κ ω : Nu) (tk st be nu la mk mb ma mv : Int32) (bd : Bool), InS S → (sP S = true → κ = sK S) → JJ G K 44 953 (WG G ox om ax am qh qt qk sh nh (sP S) (sN S) τ (sK S) (nI (sL S)) (sT S) tk st be nu (sB S) (sZ S) (sC S) (sF S) (sP S) la (nI (sL S)) mk mb ma mv bd (sN S) κ ω (sF S) (sT S) (sB S) (sZ S) (sC S)) [(3, .int (nI (i + 6))), (2, .ref om), (1, .ref ox), (0, .ref b)] 18 []) (S : St) (τ κ ω : Nu) (tk st be nu la mk mb ma mv : Int32) (bd : Bool) (hS : InS S) (hκ : sP S = true → κ = sK S) : JJ G K 44 953 (WG G ox om ax am qh qt qk sh nh (sP S) (sN S) τ (sK S) (nI (sL S)) (sT S) tk st be nu (sB S) (sZ S) (sC S) (sF S) (sP S) la (nI (sL S)) mk mb ma mv bd (sN S) κ ω (sF S) (sT S) (sB S) (sZ S) (sC S)) [(3, .int (nI (i))), (2, .ref om), (1, .ref ox), (0, .ref b)] 1148 [] := by
  refine j_aload_n 1148 cx 2 dL_law_1148 rfl ?_
  refine j_aload_n 1149 cx 3 dL_law_1149 rfl ?_
  refine j_iload_n 1150 cx 0 dL_law_1150 rfl ?_
  refine j_iconst 1151 cx 1 dL_law_1151 (by decide) ?_
  refine j_iadd 1152 cx dL_law_1152 ?_
  refine j_top (nI (i + 1)) (nI_add i 1) ?_
  refine j_sld 1153 cx hX hbl hbA (i + 1) rfl (by omega) (by omega) dL_law_1153 ?_
  refine j_callV_i 1154 cx 1 [0, 34] [.int (xs (i + 1))] (fun zu1 => WG G ox om ax am qh qt qk sh nh (sP S) (sN S) τ (sK S) (nI (sL S)) (sT S) tk st be nu (sB S) (sZ S) (sC S) (sF (sp_status (xs (i + 1)) S).2) (sP S) la (nI (sL S)) mk mb ma mv bd (sN S) κ ω (sF S) (sT S) (sB S) (sZ S) (sC S)) (c_X5_status (kl K) G ox ax qh qt qk S τ hS.1.1 hS.1.2.1 (xs (i + 1))) gL_law_X5_status rfl rfl rfl ⟨rfl, by decide, by decide, rfl⟩ ⟨Nat.le_of_ble_eq_true rfl, Nat.le_of_ble_eq_true rfl⟩ ⟨Nat.le_of_ble_eq_true rfl, Nat.le_of_ble_eq_true rfl⟩ rfl (by decide) (ci := 4) 0 rfl rfl rfl rfl rfl (Nat.le_of_ble_eq_true rfl) dL_law_1154 (fun zu1 => by simp only [WG, rep, List.cons_append, List.nil_append, List.set_cons_zero, List.set_cons_succ] <;> rfl) (fun zu1 zk9 => ?_)
  refine j_top ((sp_status (xs (i + 1)) S).1) rfl ?_
  refine j_aload_n 1157 cx 1 dL_law_1157 rfl ?_
  refine j_aload_n 1158 cx 3 dL_law_1158 rfl ?_
  refine j_iload_n 1159 cx 0 dL_law_1159 rfl ?_
  refine j_iconst 1160 cx 1 dL_law_1160 (by decide) ?_
  refine j_iadd 1161 cx dL_law_1161 ?_
  refine j_top (nI (i + 1)) (nI_add i 1) ?_
  refine j_sld 1162 cx hX hbl hbA (i + 1) rfl (by omega) (by omega) dL_law_1162 ?_
  refine j_callV_i 1163 cx 1 [35, 39] [.int (xs (i + 1))] (fun zu2 => WG G ox om ax am qh qt qk sh nh (sP S) (sN S) τ (sK S) (nI (sL S)) (sT S) tk st be nu (sB S) (sZ S) (sC S) (sF (sp_status (xs (i + 1)) S).2) (sP S) la (nI (sL S)) mk mb ma mv bd (sN S) κ ω (sF (sp_status (xs (i + 1)) S).2) (sT S) (sB S) (sZ S) (sC S)) (c_X6_status (kl K) G om am S la mk mb ma mv bd ω hS.1.1 hS.1.2.1 (xs (i + 1))) gL_law_X6_status rfl rfl rfl ⟨rfl, by decide, by decide, rfl⟩ ⟨Nat.le_of_ble_eq_true rfl, Nat.le_of_ble_eq_true rfl⟩ ⟨Nat.le_of_ble_eq_true rfl, Nat.le_of_ble_eq_true rfl⟩ rfl (by decide) (ci := 5) 0 rfl rfl rfl rfl rfl (Nat.le_of_ble_eq_true rfl) dL_law_1163 (fun zu2 => by simp only [WG, rep, List.cons_append, List.nil_append, List.set_cons_zero, List.set_cons_succ] <;> rfl) (fun zu2 zk9 => ?_)
  refine j_top ((sp_status (xs (i + 1)) S).1) rfl ?_
  refine j_icmp_eq_T 1166 cx 1171 dL_law_1166 (by decide) rfl ?_
  refine j_iinc 1171 cx [(3, .int (nI (i + 6))), (2, .ref om), (1, .ref ox), (0, .ref b)] 0 (nI (i + 6)) dL_law_1171 rfl (iinc6 i) (by decide) rfl ?_
  refine j_goto 1174 cx 18 dL_law_1174 (by decide) ?_
  have hk := kp_status (xs (i + 1)) S
  have h9 := ih (sp_status (xs (i + 1)) S).2 τ κ ω tk st be nu la mk mb ma mv bd (is_status (xs (i + 1)) hS) (fun q => by rw [hk.2.1] at q; rw [hk.1]; exact hκ q)
  rw [hk.1, hk.2.1, hk.2.2.1, hk.2.2.2.1, hk.2.2.2.2.1, hk.2.2.2.2.2.1, hk.2.2.2.2.2.2] at h9
  rw [kn_status (xs (i + 1)) S] at h9
  exact h9
