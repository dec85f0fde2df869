set_option maxRecDepth 100000 in
set_option maxHeartbeats 4000000 in
theorem lc_turn {G : pG} {K : pK} (cx : CX G K cL_law RL wsL_law 4 room_1) {b L : Nat} {xs : Nat → Int32} (hX : va_X b L xs (ks K) (ks K).heap) (hbl : b < (ks K).heap.size) (hbA : ¬ kA K b) (hL : L ≤ 3072) (ox om : Nat) (ax am qh qt qk sh nh : Nat → Nat) (i : Nat) (hi : i + 6 ≤ L) (ih : ∀ (S : St) (τ κ ω : Nu) (tk st be nu la mk mb ma mv : Int32) (bd : Bool), InS S → (sP S = true → κ = sK S) → JJ G K 44 953 (WG G ox om ax am qh qt qk sh nh (sP S) (sN S) τ (sK S) (nI (sL S)) (sT S) tk st be nu (sB S) (sZ S) (sC S) (sF S) (sP S) la (nI (sL S)) mk mb ma mv bd (sN S) κ ω (sF S) (sT S) (sB S) (sZ S) (sC S)) [(3, .int (nI (i + 6))), (2, .ref om), (1, .ref ox), (0, .ref b)] 18 []) (S : St) (τ κ ω : Nu) (tk st be nu la mk mb ma mv : Int32) (bd : Bool) (hS : InS S) (hκ : sP S = true → κ = sK S) : JJ G K 44 953 (WG G ox om ax am qh qt qk sh nh (sP S) (sN S) τ (sK S) (nI (sL S)) (sT S) tk st be nu (sB S) (sZ S) (sC S) (sF S) (sP S) la (nI (sL S)) mk mb ma mv bd (sN S) κ ω (sF S) (sT S) (sB S) (sZ S) (sC S)) [(3, .int (nI (i))), (2, .ref om), (1, .ref ox), (0, .ref b)] 380 [] := by
  refine j_aload_n 380 cx 2 dL_law_380 rfl ?_
  refine j_aload_n 381 cx 3 dL_law_381 rfl ?_
  refine j_iload_n 382 cx 0 dL_law_382 rfl ?_
  refine j_iconst 383 cx 1 dL_law_383 (by decide) ?_
  refine j_iadd 384 cx dL_law_384 ?_
  refine j_top (nI (i + 1)) (nI_add i 1) ?_
  refine j_sld 385 cx hX hbl hbA (i + 1) rfl (by omega) (by omega) dL_law_385 ?_
  refine j_aload_n 386 cx 3 dL_law_386 rfl ?_
  refine j_iload_n 387 cx 0 dL_law_387 rfl ?_
  refine j_iconst 388 cx 2 dL_law_388 (by decide) ?_
  refine j_iadd 389 cx dL_law_389 ?_
  refine j_top (nI (i + 2)) (nI_add i 2) ?_
  refine j_sld 390 cx hX hbl hbA (i + 2) rfl (by omega) (by omega) dL_law_390 ?_
  refine j_callV_i 391 cx 2 [0, 34, 1, 2, 3, 4, 5, 6, 7] [.int (xs (i + 1)), .int (xs (i + 2))] (fun zu1 => WG G ox om ax am qh qt qk sh nh (sP S) (sN (sp_turn (xs (i + 1)) (xs (i + 2)) S).2) τ (sK S) (nI (sL S)) (sT S) tk st be nu (sB S) (sZ S) (sC S) (sF (sp_turn (xs (i + 1)) (xs (i + 2)) S).2) (sP S) la (nI (sL S)) mk mb ma mv bd (sN S) κ ω (sF S) (sT S) (sB S) (sZ S) (sC S)) (c_X5_turn (kl K) G ox ax qh qt qk S τ hS.1.1 hS.1.2.1 (xs (i + 1)) (xs (i + 2))) gL_law_X5_turn rfl rfl rfl ⟨rfl, by decide, by decide, rfl⟩ ⟨Nat.le_of_ble_eq_true rfl, Nat.le_of_ble_eq_true rfl⟩ ⟨Nat.le_of_ble_eq_true rfl, Nat.le_of_ble_eq_true rfl⟩ rfl (by decide) (ci := 4) 0 rfl rfl rfl rfl rfl (Nat.le_of_ble_eq_true rfl) dL_law_391 (fun zu1 => by simp only [WG, rep, List.cons_append, List.nil_append, List.set_cons_zero, List.set_cons_succ] <;> rfl) (fun zu1 zk9 => ?_)
  refine j_top ((sp_turn (xs (i + 1)) (xs (i + 2)) S).1) rfl ?_
  refine j_aload_n 394 cx 1 dL_law_394 rfl ?_
  refine j_aload_n 395 cx 3 dL_law_395 rfl ?_
  refine j_iload_n 396 cx 0 dL_law_396 rfl ?_
  refine j_iconst 397 cx 1 dL_law_397 (by decide) ?_
  refine j_iadd 398 cx dL_law_398 ?_
  refine j_top (nI (i + 1)) (nI_add i 1) ?_
  refine j_sld 399 cx hX hbl hbA (i + 1) rfl (by omega) (by omega) dL_law_399 ?_
  refine j_aload_n 400 cx 3 dL_law_400 rfl ?_
  refine j_iload_n 401 cx 0 dL_law_401 rfl ?_
  refine j_iconst 402 cx 2 dL_law_402 (by decide) ?_
  refine j_iadd 403 cx dL_law_403 ?_
  refine j_top (nI (i + 2)) (nI_add i 2) ?_
  refine j_sld 404 cx hX hbl hbA (i + 2) rfl (by omega) (by omega) dL_law_404 ?_
  refine j_callV_i 405 cx 2 [35, 36, 39] [.int (xs (i + 1)), .int (xs (i + 2))] (fun zu2 => WG G ox om ax am qh qt qk sh nh (sP S) (sN (sp_turn (xs (i + 1)) (xs (i + 2)) S).2) τ (sK S) (nI (sL S)) (sT S) tk st be nu (sB S) (sZ S) (sC S) (sF (sp_turn (xs (i + 1)) (xs (i + 2)) S).2) (sP S) la (nI (sL S)) mk mb ma mv bd (sN (sp_turn (xs (i + 1)) (xs (i + 2)) S).2) κ ω (sF (sp_turn (xs (i + 1)) (xs (i + 2)) S).2) (sT S) (sB S) (sZ S) (sC S)) (c_X6_turn (kl K) G om am S la mk mb ma mv bd ω hS.1.1 hS.1.2.1 (xs (i + 1)) (xs (i + 2))) gL_law_X6_turn rfl rfl rfl ⟨rfl, by decide, by decide, rfl⟩ ⟨Nat.le_of_ble_eq_true rfl, Nat.le_of_ble_eq_true rfl⟩ ⟨Nat.le_of_ble_eq_true rfl, Nat.le_of_ble_eq_true rfl⟩ rfl (by decide) (ci := 5) 0 rfl rfl rfl rfl rfl (Nat.le_of_ble_eq_true rfl) dL_law_405 (fun zu2 => by simp only [WG, rep, List.cons_append, List.nil_append, List.set_cons_zero, List.set_cons_succ] <;> rfl) (fun zu2 zk9 => ?_)
  refine j_top ((sp_turn (xs (i + 1)) (xs (i + 2)) S).1) rfl ?_
  refine j_icmp_eq_T 408 cx 1171 dL_law_408 (by decide) rfl ?_
  refine j_iinc 1171 cx [(3, .int (nI (i + 6))), (2, .ref om), (1, .ref ox), (0, .ref b)] 0 (nI (i + 6)) dL_law_1171 rfl (iinc6 i) (by decide) rfl ?_
  refine j_goto 1174 cx 18 dL_law_1174 (by decide) ?_
  have hk := kp_turn (xs (i + 1)) (xs (i + 2)) S
  have h9 := ih (sp_turn (xs (i + 1)) (xs (i + 2)) S).2 τ κ ω tk st be nu la mk mb ma mv bd (is_turn (xs (i + 1)) (xs (i + 2)) hS) (fun q => by rw [hk.2.1] at q; rw [hk.1]; exact hκ q)
  rw [hk.1, hk.2.1, hk.2.2.1, hk.2.2.2.1, hk.2.2.2.2.1, hk.2.2.2.2.2.1, hk.2.2.2.2.2.2] at h9
  exact h9
set_option maxRecDepth 100000 in
set_option maxHeartbeats 4000000 in
theorem lc_as {G : pG} {K : pK} (cx : CX G K cL_law RL wsL_law 4 room_1) {b L : Nat} {xs : Nat → Int32} (hX : va_X b L xs (ks K) (ks K).heap) (hbl : b < (ks K).heap.size) (hbA : ¬ kA K b) (hL : L ≤ 3072) (ox om : Nat) (ax am qh qt qk sh nh : Nat → Nat) (i : Nat) (hi : i + 6 ≤ L) (ih : ∀ (S : St) (τ κ ω : Nu) (tk st be nu la mk mb ma mv : Int32) (bd : Bool), InS S → (sP S = true → κ = sK S) → JJ G K 44 953 (WG G ox om ax am qh qt qk sh nh (sP S) (sN S) τ (sK S) (nI (sL S)) (sT S) tk st be nu (sB S) (sZ S) (sC S) (sF S) (sP S) la (nI (sL S)) mk mb ma mv bd (sN S) κ ω (sF S) (sT S) (sB S) (sZ S) (sC S)) [(3, .int (nI (i + 6))), (2, .ref om), (1, .ref ox), (0, .ref b)] 18 []) (S : St) (τ κ ω : Nu) (tk st be nu la mk mb ma mv : Int32) (bd : Bool) (hS : InS S) (hκ : sP S = true → κ = sK S) : JJ G K 44 953 (WG G ox om ax am qh qt qk sh nh (sP S) (sN S) τ (sK S) (nI (sL S)) (sT S) tk st be nu (sB S) (sZ S) (sC S) (sF S) (sP S) la (nI (sL S)) mk mb ma mv bd (sN S) κ ω (sF S) (sT S) (sB S) (sZ S) (sC S)) [(3, .int (nI (i))), (2, .ref om), (1, .ref ox), (0, .ref b)] 413 [] := by
  refine j_aload_n 413 cx 2 dL_law_413 rfl ?_
  refine j_aload_n 414 cx 3 dL_law_414 rfl ?_
  refine j_iload_n 415 cx 0 dL_law_415 rfl ?_
  refine j_iconst 416 cx 1 dL_law_416 (by decide) ?_
  refine j_iadd 417 cx dL_law_417 ?_
  refine j_top (nI (i + 1)) (nI_add i 1) ?_
  refine j_sld 418 cx hX hbl hbA (i + 1) rfl (by omega) (by omega) dL_law_418 ?_
  refine j_aload_n 419 cx 3 dL_law_419 rfl ?_
  refine j_iload_n 420 cx 0 dL_law_420 rfl ?_
  refine j_iconst 421 cx 2 dL_law_421 (by decide) ?_
  refine j_iadd 422 cx dL_law_422 ?_
  refine j_top (nI (i + 2)) (nI_add i 2) ?_
  refine j_sld 423 cx hX hbl hbA (i + 2) rfl (by omega) (by omega) dL_law_423 ?_
  refine j_callV_i 424 cx 2 [0, 34, 1, 2, 3, 4, 5, 6, 7] [.int (xs (i + 1)), .int (xs (i + 2))] (fun zu1 => WG G ox om ax am qh qt qk sh nh (sP S) (sN (sp_as (xs (i + 1)) (xs (i + 2)) S).2) τ (sK S) (nI (sL S)) (sT S) tk st be nu (sB S) (sZ S) (sC S) (sF (sp_as (xs (i + 1)) (xs (i + 2)) S).2) (sP S) la (nI (sL S)) mk mb ma mv bd (sN S) κ ω (sF S) (sT S) (sB S) (sZ S) (sC S)) (c_X5_as (kl K) G ox ax qh qt qk S τ hS.1.1 hS.1.2.1 (xs (i + 1)) (xs (i + 2))) gL_law_X5_as rfl rfl rfl ⟨rfl, by decide, by decide, rfl⟩ ⟨Nat.le_of_ble_eq_true rfl, Nat.le_of_ble_eq_true rfl⟩ ⟨Nat.le_of_ble_eq_true rfl, Nat.le_of_ble_eq_true rfl⟩ rfl (by decide) (ci := 4) 0 rfl rfl rfl rfl rfl (Nat.le_of_ble_eq_true rfl) dL_law_424 (fun zu1 => by simp only [WG, rep, List.cons_append, List.nil_append, List.set_cons_zero, List.set_cons_succ] <;> rfl) (fun zu1 zk9 => ?_)
  refine j_top ((sp_as (xs (i + 1)) (xs (i + 2)) S).1) rfl ?_
  refine j_aload_n 427 cx 1 dL_law_427 rfl ?_
  refine j_aload_n 428 cx 3 dL_law_428 rfl ?_
  refine j_iload_n 429 cx 0 dL_law_429 rfl ?_
  refine j_iconst 430 cx 1 dL_law_430 (by decide) ?_
  refine j_iadd 431 cx dL_law_431 ?_
  refine j_top (nI (i + 1)) (nI_add i 1) ?_
  refine j_sld 432 cx hX hbl hbA (i + 1) rfl (by omega) (by omega) dL_law_432 ?_
  refine j_aload_n 433 cx 3 dL_law_433 rfl ?_
  refine j_iload_n 434 cx 0 dL_law_434 rfl ?_
  refine j_iconst 435 cx 2 dL_law_435 (by decide) ?_
  refine j_iadd 436 cx dL_law_436 ?_
  refine j_top (nI (i + 2)) (nI_add i 2) ?_
  refine j_sld 437 cx hX hbl hbA (i + 2) rfl (by omega) (by omega) dL_law_437 ?_
  refine j_callV_i 438 cx 2 [35, 36, 39] [.int (xs (i + 1)), .int (xs (i + 2))] (fun zu2 => WG G ox om ax am qh qt qk sh nh (sP S) (sN (sp_as (xs (i + 1)) (xs (i + 2)) S).2) τ (sK S) (nI (sL S)) (sT S) tk st be nu (sB S) (sZ S) (sC S) (sF (sp_as (xs (i + 1)) (xs (i + 2)) S).2) (sP S) la (nI (sL S)) mk mb ma mv bd (sN (sp_as (xs (i + 1)) (xs (i + 2)) S).2) κ ω (sF (sp_as (xs (i + 1)) (xs (i + 2)) S).2) (sT S) (sB S) (sZ S) (sC S)) (c_X6_as (kl K) G om am S la mk mb ma mv bd ω hS.1.1 hS.1.2.1 (xs (i + 1)) (xs (i + 2))) gL_law_X6_as rfl rfl rfl ⟨rfl, by decide, by decide, rfl⟩ ⟨Nat.le_of_ble_eq_true rfl, Nat.le_of_ble_eq_true rfl⟩ ⟨Nat.le_of_ble_eq_true rfl, Nat.le_of_ble_eq_true rfl⟩ rfl (by decide) (ci := 5) 0 rfl rfl rfl rfl rfl (Nat.le_of_ble_eq_true rfl) dL_law_438 (fun zu2 => by simp only [WG, rep, List.cons_append, List.nil_append, List.set_cons_zero, List.set_cons_succ] <;> rfl) (fun zu2 zk9 => ?_)
  refine j_top ((sp_as (xs (i + 1)) (xs (i + 2)) S).1) rfl ?_
  refine j_icmp_eq_T 441 cx 1171 dL_law_441 (by decide) rfl ?_
  refine j_iinc 1171 cx [(3, .int (nI (i + 6))), (2, .ref om), (1, .ref ox), (0, .ref b)] 0 (nI (i + 6)) dL_law_1171 rfl (iinc6 i) (by decide) rfl ?_
  refine j_goto 1174 cx 18 dL_law_1174 (by decide) ?_
  have hk := kp_as (xs (i + 1)) (xs (i + 2)) S
  have h9 := ih (sp_as (xs (i + 1)) (xs (i + 2)) S).2 τ κ ω tk st be nu la mk mb ma mv bd (is_as (xs (i + 1)) (xs (i + 2)) hS) (fun q => by rw [hk.2.1] at q; rw [hk.1]; exact hκ q)
  rw [hk.1, hk.2.1, hk.2.2.1, hk.2.2.2.1, hk.2.2.2.2.1, hk.2.2.2.2.2.1, hk.2.2.2.2.2.2] at h9
  exact h9
set_option maxRecDepth 100000 in
set_option maxHeartbeats 4000000 in
theorem lc_left {G : pG} {K : pK} (cx : CX G K cL_law RL wsL_law 4 room_1) {b L : Nat} {xs : Nat → Int32} (hX : va_X b L xs (ks K) (ks K).heap) (hbl : b < (ks K).heap.size) (hbA : ¬ kA K b) (hL : L ≤ 3072) (ox om : Nat) (ax am qh qt qk sh nh : Nat → Nat) (i : Nat) (hi : i + 6 ≤ L) (ih : ∀ (S : St) (τ κ ω : Nu) (tk st be nu la mk mb ma mv : Int32) (bd : Bool), InS S → (sP S = true → κ = sK S) → JJ G K 44 953 (WG G ox om ax am qh qt qk sh nh (sP S) (sN S) τ (sK S) (nI (sL S)) (sT S) tk st be nu (sB S) (sZ S) (sC S) (sF S) (sP S) la (nI (sL S)) mk mb ma mv bd (sN S) κ ω (sF S) (sT S) (sB S) (sZ S) (sC S)) [(3, .int (nI (i + 6))), (2, .ref om), (1, .ref ox), (0, .ref b)] 18 []) (S : St) (τ κ ω : Nu) (tk st be nu la mk mb ma mv : Int32) (bd : Bool) (hS : InS S) (hκ : sP S = true → κ = sK S) : JJ G K 44 953 (WG G ox om ax am qh qt qk sh nh (sP S) (sN S) τ (sK S) (nI (sL S)) (sT S) tk st be nu (sB S) (sZ S) (sC S) (sF S) (sP S) la (nI (sL S)) mk mb ma mv bd (sN S) κ ω (sF S) (sT S) (sB S) (sZ S) (sC S)) [(3, .int (nI (i))), (2, .ref om), (1, .ref ox), (0, .ref b)] 446 [] := by
  refine j_aload_n 446 cx 2 dL_law_446 rfl ?_
  refine j_aload_n 447 cx 3 dL_law_447 rfl ?_
  refine j_iload_n 448 cx 0 dL_law_448 rfl ?_
  refine j_iconst 449 cx 1 dL_law_449 (by decide) ?_
  refine j_iadd 450 cx dL_law_450 ?_
  refine j_top (nI (i + 1)) (nI_add i 1) ?_
  refine j_sld 451 cx hX hbl hbA (i + 1) rfl (by omega) (by omega) dL_law_451 ?_
  refine j_callV_i 452 cx 1 [0, 34, 1, 2, 3, 4, 5, 6, 7] [.int (xs (i + 1))] (fun zu1 => WG G ox om ax am qh qt qk sh nh (sP S) (sN (sp_left (xs (i + 1)) S).2) τ (sK S) (nI (sL S)) (sT S) tk st be nu (sB S) (sZ S) (sC S) (sF (sp_left (xs (i + 1)) S).2) (sP S) la (nI (sL S)) mk mb ma mv bd (sN S) κ ω (sF S) (sT S) (sB S) (sZ S) (sC S)) (c_X5_left (kl K) G ox ax qh qt qk S τ hS.1.1 hS.1.2.1 (xs (i + 1))) gL_law_X5_left rfl rfl rfl ⟨rfl, by decide, by decide, rfl⟩ ⟨Nat.le_of_ble_eq_true rfl, Nat.le_of_ble_eq_true rfl⟩ ⟨Nat.le_of_ble_eq_true rfl, Nat.le_of_ble_eq_true rfl⟩ rfl (by decide) (ci := 4) 0 rfl rfl rfl rfl rfl (Nat.le_of_ble_eq_true rfl) dL_law_452 (fun zu1 => by simp only [WG, rep, List.cons_append, List.nil_append, List.set_cons_zero, List.set_cons_succ] <;> rfl) (fun zu1 zk9 => ?_)
  refine j_top ((sp_left (xs (i + 1)) S).1) rfl ?_
  refine j_aload_n 455 cx 1 dL_law_455 rfl ?_
  refine j_aload_n 456 cx 3 dL_law_456 rfl ?_
  refine j_iload_n 457 cx 0 dL_law_457 rfl ?_
  refine j_iconst 458 cx 1 dL_law_458 (by decide) ?_
  refine j_iadd 459 cx dL_law_459 ?_
  refine j_top (nI (i + 1)) (nI_add i 1) ?_
  refine j_sld 460 cx hX hbl hbA (i + 1) rfl (by omega) (by omega) dL_law_460 ?_
  refine j_callV_i 461 cx 1 [35, 36, 39] [.int (xs (i + 1))] (fun zu2 => WG G ox om ax am qh qt qk sh nh (sP S) (sN (sp_left (xs (i + 1)) S).2) τ (sK S) (nI (sL S)) (sT S) tk st be nu (sB S) (sZ S) (sC S) (sF (sp_left (xs (i + 1)) S).2) (sP S) la (nI (sL S)) mk mb ma mv bd (sN (sp_left (xs (i + 1)) S).2) κ ω (sF (sp_left (xs (i + 1)) S).2) (sT S) (sB S) (sZ S) (sC S)) (c_X6_left (kl K) G om am S la mk mb ma mv bd ω hS.1.1 hS.1.2.1 (xs (i + 1)) hS.1.2.2) gL_law_X6_left rfl rfl rfl ⟨rfl, by decide, by decide, rfl⟩ ⟨Nat.le_of_ble_eq_true rfl, Nat.le_of_ble_eq_true rfl⟩ ⟨Nat.le_of_ble_eq_true rfl, Nat.le_of_ble_eq_true rfl⟩ rfl (by decide) (ci := 5) 0 rfl rfl rfl rfl rfl (Nat.le_of_ble_eq_true rfl) dL_law_461 (fun zu2 => by simp only [WG, rep, List.cons_append, List.nil_append, List.set_cons_zero, List.set_cons_succ] <;> rfl) (fun zu2 zk9 => ?_)
  refine j_top ((sp_left (xs (i + 1)) S).1) rfl ?_
  refine j_icmp_eq_T 464 cx 1171 dL_law_464 (by decide) rfl ?_
  refine j_iinc 1171 cx [(3, .int (nI (i + 6))), (2, .ref om), (1, .ref ox), (0, .ref b)] 0 (nI (i + 6)) dL_law_1171 rfl (iinc6 i) (by decide) rfl ?_
  refine j_goto 1174 cx 18 dL_law_1174 (by decide) ?_
  have hk := kp_left (xs (i + 1)) S
  have h9 := ih (sp_left (xs (i + 1)) S).2 τ κ ω tk st be nu la mk mb ma mv bd (is_left (xs (i + 1)) hS) (fun q => by rw [hk.2.1] at q; rw [hk.1]; exact hκ q)
  rw [hk.1, hk.2.1, hk.2.2.1, hk.2.2.2.1, hk.2.2.2.2.1, hk.2.2.2.2.2.1, hk.2.2.2.2.2.2] at h9
  exact h9
set_option maxRecDepth 100000 in
set_option maxHeartbeats 4000000 in
theorem lc_days {G : pG} {K : pK} (cx : CX G K cL_law RL wsL_law 4 room_1) {b L : Nat} {xs : Nat → Int32} (hX : va_X b L xs (ks K) (ks K).heap) (hbl : b < (ks K).heap.size) (hbA : ¬ kA K b) (hL : L ≤ 3072) (ox om : Nat) (ax am qh qt qk sh nh : Nat → Nat) (i : Nat) (hi : i + 6 ≤ L) (ih : ∀ (S : St) (τ κ ω : Nu) (tk st be nu la mk mb ma mv : Int32) (bd : Bool), InS S → (sP S = true → κ = sK S) → JJ G K 44 953 (WG G ox om ax am qh qt qk sh nh (sP S) (sN S) τ (sK S) (nI (sL S)) (sT S) tk st be nu (sB S) (sZ S) (sC S) (sF S) (sP S) la (nI (sL S)) mk mb ma mv bd (sN S) κ ω (sF S) (sT S) (sB S) (sZ S) (sC S)) [(3, .int (nI (i + 6))), (2, .ref om), (1, .ref ox), (0, .ref b)] 18 []) (S : St) (τ κ ω : Nu) (tk st be nu la mk mb ma mv : Int32) (bd : Bool) (hS : InS S) (hκ : sP S = true → κ = sK S) : JJ G K 44 953 (WG G ox om ax am qh qt qk sh nh (sP S) (sN S) τ (sK S) (nI (sL S)) (sT S) tk st be nu (sB S) (sZ S) (sC S) (sF S) (sP S) la (nI (sL S)) mk mb ma mv bd (sN S) κ ω (sF S) (sT S) (sB S) (sZ S) (sC S)) [(3, .int (nI (i))), (2, .ref om), (1, .ref ox), (0, .ref b)] 469 [] := by
  refine j_aload_n 469 cx 2 dL_law_469 rfl ?_
  refine j_aload_n 470 cx 3 dL_law_470 rfl ?_
  refine j_iload_n 471 cx 0 dL_law_471 rfl ?_
  refine j_iconst 472 cx 1 dL_law_472 (by decide) ?_
  refine j_iadd 473 cx dL_law_473 ?_
  refine j_top (nI (i + 1)) (nI_add i 1) ?_
  refine j_sld 474 cx hX hbl hbA (i + 1) rfl (by omega) (by omega) dL_law_474 ?_
  refine j_callV_i 475 cx 1 [0, 34, 1, 2, 3, 4, 5, 6, 7] [.int (xs (i + 1))] (fun zu1 => WG G ox om ax am qh qt qk sh nh (sP S) (sN (sp_days (xs (i + 1)) S).2) τ (sK S) (nI (sL S)) (sT S) tk st be nu (sB S) (sZ S) (sC S) (sF (sp_days (xs (i + 1)) S).2) (sP S) la (nI (sL S)) mk mb ma mv bd (sN S) κ ω (sF S) (sT S) (sB S) (sZ S) (sC S)) (c_X5_days (kl K) G ox ax qh qt qk S τ hS.1.1 hS.1.2.1 (xs (i + 1))) gL_law_X5_days rfl rfl rfl ⟨rfl, by decide, by decide, rfl⟩ ⟨Nat.le_of_ble_eq_true rfl, Nat.le_of_ble_eq_true rfl⟩ ⟨Nat.le_of_ble_eq_true rfl, Nat.le_of_ble_eq_true rfl⟩ rfl (by decide) (ci := 4) 0 rfl rfl rfl rfl rfl (Nat.le_of_ble_eq_true rfl) dL_law_475 (fun zu1 => by simp only [WG, rep, List.cons_append, List.nil_append, List.set_cons_zero, List.set_cons_succ] <;> rfl) (fun zu1 zk9 => ?_)
  refine j_top ((sp_days (xs (i + 1)) S).1) rfl ?_
  refine j_aload_n 478 cx 1 dL_law_478 rfl ?_
  refine j_aload_n 479 cx 3 dL_law_479 rfl ?_
  refine j_iload_n 480 cx 0 dL_law_480 rfl ?_
  refine j_iconst 481 cx 1 dL_law_481 (by decide) ?_
  refine j_iadd 482 cx dL_law_482 ?_
  refine j_top (nI (i + 1)) (nI_add i 1) ?_
  refine j_sld 483 cx hX hbl hbA (i + 1) rfl (by omega) (by omega) dL_law_483 ?_
  refine j_callV_i 484 cx 1 [35, 36, 39] [.int (xs (i + 1))] (fun zu2 => WG G ox om ax am qh qt qk sh nh (sP S) (sN (sp_days (xs (i + 1)) S).2) τ (sK S) (nI (sL S)) (sT S) tk st be nu (sB S) (sZ S) (sC S) (sF (sp_days (xs (i + 1)) S).2) (sP S) zu2 (nI (sL S)) mk mb ma mv bd (sN (sp_days (xs (i + 1)) S).2) κ ω (sF (sp_days (xs (i + 1)) S).2) (sT S) (sB S) (sZ S) (sC S)) (c_X6_days (kl K) G om am S la mk mb ma mv bd ω hS.1.1 hS.1.2.1 (xs (i + 1))) gL_law_X6_days rfl rfl rfl ⟨rfl, by decide, by decide, rfl⟩ ⟨Nat.le_of_ble_eq_true rfl, Nat.le_of_ble_eq_true rfl⟩ ⟨Nat.le_of_ble_eq_true rfl, Nat.le_of_ble_eq_true rfl⟩ rfl (by decide) (ci := 5) 0 rfl rfl rfl rfl rfl (Nat.le_of_ble_eq_true rfl) dL_law_484 (fun zu2 => by simp only [WG, rep, List.cons_append, List.nil_append, List.set_cons_zero, List.set_cons_succ] <;> rfl) (fun zu2 zk9 => ?_)
  refine j_top ((sp_days (xs (i + 1)) S).1) rfl ?_
  refine j_icmp_eq_T 487 cx 1171 dL_law_487 (by decide) rfl ?_
  refine j_iinc 1171 cx [(3, .int (nI (i + 6))), (2, .ref om), (1, .ref ox), (0, .ref b)] 0 (nI (i + 6)) dL_law_1171 rfl (iinc6 i) (by decide) rfl ?_
  refine j_goto 1174 cx 18 dL_law_1174 (by decide) ?_
  have hk := kp_days (xs (i + 1)) S
  have h9 := ih (sp_days (xs (i + 1)) S).2 τ κ ω tk st be nu zu2 mk mb ma mv bd (is_days (xs (i + 1)) hS) (fun q => by rw [hk.2.1] at q; rw [hk.1]; exact hκ q)
  rw [hk.1, hk.2.1, hk.2.2.1, hk.2.2.2.1, hk.2.2.2.2.1, hk.2.2.2.2.2.1, hk.2.2.2.2.2.2] at h9
  exact h9
set_option maxRecDepth 100000 in
set_option maxHeartbeats 4000000 in
theorem lc_on {G : pG} {K : pK} (cx : CX G K cL_law RL wsL_law 4 room_1) {b L : Nat} {xs : Nat → Int32} (hX : va_X b L xs (ks K) (ks K).heap) (hbl : b < (ks K).heap.size) (hbA : ¬ kA K b) (hL : L ≤ 3072) (ox om : Nat) (ax am qh qt qk sh nh : Nat → Nat) (i : Nat) (hi : i + 6 ≤ L) (ih : ∀ (S : St) (τ κ ω : Nu) (tk st be nu la mk mb ma mv : Int32) (bd : Bool), InS S → (sP S = true → κ = sK S) → JJ G K 44 953 (WG G ox om ax am qh qt qk sh nh (sP S) (sN S) τ (sK S) (nI (sL S)) (sT S) tk st be nu (sB S) (sZ S) (sC S) (sF S) (sP S) la (nI (sL S)) mk mb ma mv bd (sN S) κ ω (sF S) (sT S) (sB S) (sZ S) (sC S)) [(3, .int (nI (i + 6))), (2, .ref om), (1, .ref ox), (0, .ref b)] 18 []) (S : St) (τ κ ω : Nu) (tk st be nu la mk mb ma mv : Int32) (bd : Bool) (hS : InS S) (hκ : sP S = true → κ = sK S) : JJ G K 44 953 (WG G ox om ax am qh qt qk sh nh (sP S) (sN S) τ (sK S) (nI (sL S)) (sT S) tk st be nu (sB S) (sZ S) (sC S) (sF S) (sP S) la (nI (sL S)) mk mb ma mv bd (sN S) κ ω (sF S) (sT S) (sB S) (sZ S) (sC S)) [(3, .int (nI (i))), (2, .ref om), (1, .ref ox), (0, .ref b)] 492 [] := by
  refine j_aload_n 492 cx 2 dL_law_492 rfl ?_
  refine j_aload_n 493 cx 3 dL_law_493 rfl ?_
  refine j_iload_n 494 cx 0 dL_law_494 rfl ?_
  refine j_iconst 495 cx 1 dL_law_495 (by decide) ?_
  refine j_iadd 496 cx dL_law_496 ?_
  refine j_top (nI (i + 1)) (nI_add i 1) ?_
  refine j_sld 497 cx hX hbl hbA (i + 1) rfl (by omega) (by omega) dL_law_497 ?_
  refine j_aload_n 498 cx 3 dL_law_498 rfl ?_
  refine j_iload_n 499 cx 0 dL_law_499 rfl ?_
  refine j_iconst 500 cx 2 dL_law_500 (by decide) ?_
  refine j_iadd 501 cx dL_law_501 ?_
  refine j_top (nI (i + 2)) (nI_add i 2) ?_
  refine j_sld 502 cx hX hbl hbA (i + 2) rfl (by omega) (by omega) dL_law_502 ?_
  refine j_aload_n 503 cx 3 dL_law_503 rfl ?_
  refine j_iload_n 504 cx 0 dL_law_504 rfl ?_
  refine j_iconst 505 cx 3 dL_law_505 (by decide) ?_
  refine j_iadd 506 cx dL_law_506 ?_
  refine j_top (nI (i + 3)) (nI_add i 3) ?_
  refine j_sld 507 cx hX hbl hbA (i + 3) rfl (by omega) (by omega) dL_law_507 ?_
  refine j_callV_i 508 cx 3 [0, 34, 1, 2, 3, 4, 5, 6, 7, 8, 9, 10, 11, 12, 13, 14] [.int (xs (i + 1)), .int (xs (i + 2)), .int (xs (i + 3))] (fun zu1 => WG G ox om ax am qh qt qk sh nh (sP S) (sN (sp_on (xs (i + 1)) (xs (i + 2)) (xs (i + 3)) S).2) zu1 (sK S) (nI (sL S)) (sT S) tk st be nu (sB S) (sZ S) (sC S) (sF (sp_on (xs (i + 1)) (xs (i + 2)) (xs (i + 3)) S).2) (sP S) la (nI (sL S)) mk mb ma mv bd (sN S) κ ω (sF S) (sT S) (sB S) (sZ S) (sC S)) (c_X5_on (kl K) G ox ax qh qt qk S τ hS.1.1 hS.1.2.1 (xs (i + 1)) (xs (i + 2)) (xs (i + 3))) gL_law_X5_on rfl rfl rfl ⟨rfl, by decide, by decide, rfl⟩ ⟨Nat.le_of_ble_eq_true rfl, Nat.le_of_ble_eq_true rfl⟩ ⟨Nat.le_of_ble_eq_true rfl, Nat.le_of_ble_eq_true rfl⟩ rfl (by decide) (ci := 4) 0 rfl rfl rfl rfl rfl (Nat.le_of_ble_eq_true rfl) dL_law_508 (fun zu1 => by simp only [WG, rep, List.cons_append, List.nil_append, List.set_cons_zero, List.set_cons_succ] <;> rfl) (fun zu1 zk9 => ?_)
  refine j_top ((sp_on (xs (i + 1)) (xs (i + 2)) (xs (i + 3)) S).1) rfl ?_
  refine j_aload_n 511 cx 1 dL_law_511 rfl ?_
  refine j_aload_n 512 cx 3 dL_law_512 rfl ?_
  refine j_iload_n 513 cx 0 dL_law_513 rfl ?_
  refine j_iconst 514 cx 1 dL_law_514 (by decide) ?_
  refine j_iadd 515 cx dL_law_515 ?_
  refine j_top (nI (i + 1)) (nI_add i 1) ?_
  refine j_sld 516 cx hX hbl hbA (i + 1) rfl (by omega) (by omega) dL_law_516 ?_
  refine j_aload_n 517 cx 3 dL_law_517 rfl ?_
  refine j_iload_n 518 cx 0 dL_law_518 rfl ?_
  refine j_iconst 519 cx 2 dL_law_519 (by decide) ?_
  refine j_iadd 520 cx dL_law_520 ?_
  refine j_top (nI (i + 2)) (nI_add i 2) ?_
  refine j_sld 521 cx hX hbl hbA (i + 2) rfl (by omega) (by omega) dL_law_521 ?_
  refine j_aload_n 522 cx 3 dL_law_522 rfl ?_
  refine j_iload_n 523 cx 0 dL_law_523 rfl ?_
  refine j_iconst 524 cx 3 dL_law_524 (by decide) ?_
  refine j_iadd 525 cx dL_law_525 ?_
  refine j_top (nI (i + 3)) (nI_add i 3) ?_
  refine j_sld 526 cx hX hbl hbA (i + 3) rfl (by omega) (by omega) dL_law_526 ?_
  refine j_callV_i 527 cx 3 [35, 36, 39, 38] [.int (xs (i + 1)), .int (xs (i + 2)), .int (xs (i + 3))] (fun zu2 => WG G ox om ax am qh qt qk sh nh (sP S) (sN (sp_on (xs (i + 1)) (xs (i + 2)) (xs (i + 3)) S).2) zu1 (sK S) (nI (sL S)) (sT S) tk st be nu (sB S) (sZ S) (sC S) (sF (sp_on (xs (i + 1)) (xs (i + 2)) (xs (i + 3)) S).2) (sP S) (zu2.1) (nI (sL S)) mk mb ma mv bd (sN (sp_on (xs (i + 1)) (xs (i + 2)) (xs (i + 3)) S).2) κ (zu2.2) (sF (sp_on (xs (i + 1)) (xs (i + 2)) (xs (i + 3)) S).2) (sT S) (sB S) (sZ S) (sC S)) (c_X6_on (kl K) G om am S la mk mb ma mv bd ω hS.1.1 hS.1.2.1 (xs (i + 1)) (xs (i + 2)) (xs (i + 3))) gL_law_X6_on rfl rfl rfl ⟨rfl, by decide, by decide, rfl⟩ ⟨Nat.le_of_ble_eq_true rfl, Nat.le_of_ble_eq_true rfl⟩ ⟨Nat.le_of_ble_eq_true rfl, Nat.le_of_ble_eq_true rfl⟩ rfl (by decide) (ci := 5) 0 rfl rfl rfl rfl rfl (Nat.le_of_ble_eq_true rfl) dL_law_527 (fun zu2 => by simp only [WG, rep, List.cons_append, List.nil_append, List.set_cons_zero, List.set_cons_succ] <;> rfl) (fun zu2 zk9 => ?_)
  refine j_top ((sp_on (xs (i + 1)) (xs (i + 2)) (xs (i + 3)) S).1) rfl ?_
  refine j_icmp_eq_T 530 cx 1171 dL_law_530 (by decide) rfl ?_
  refine j_iinc 1171 cx [(3, .int (nI (i + 6))), (2, .ref om), (1, .ref ox), (0, .ref b)] 0 (nI (i + 6)) dL_law_1171 rfl (iinc6 i) (by decide) rfl ?_
  refine j_goto 1174 cx 18 dL_law_1174 (by decide) ?_
  have hk := kp_on (xs (i + 1)) (xs (i + 2)) (xs (i + 3)) S
  have h9 := ih (sp_on (xs (i + 1)) (xs (i + 2)) (xs (i + 3)) S).2 zu1 κ (zu2.2) tk st be nu (zu2.1) mk mb ma mv bd (is_on (xs (i + 1)) (xs (i + 2)) (xs (i + 3)) hS) (fun q => by rw [hk.2.1] at q; rw [hk.1]; exact hκ q)
  rw [hk.1, hk.2.1, hk.2.2.1, hk.2.2.2.1, hk.2.2.2.2.1, hk.2.2.2.2.2.1, hk.2.2.2.2.2.2] at h9
  exact h9
set_option maxRecDepth 100000 in
set_option maxHeartbeats 4000000 in
theorem lc_then {G : pG} {K : pK} (cx : CX G K cL_law RL wsL_law 4 room_1) {b L : Nat} {xs : Nat → Int32} (hX : va_X b L xs (ks K) (ks K).heap) (hbl : b < (ks K).heap.size) (hbA : ¬ kA K b) (hL : L ≤ 3072) (ox om : Nat) (ax am qh qt qk sh nh : Nat → Nat) (i : Nat) (hi : i + 6 ≤ L) (ih : ∀ (S : St) (τ κ ω : Nu) (tk st be nu la mk mb ma mv : Int32) (bd : Bool), InS S → (sP S = true → κ = sK S) → JJ G K 44 953 (WG G ox om ax am qh qt qk sh nh (sP S) (sN S) τ (sK S) (nI (sL S)) (sT S) tk st be nu (sB S) (sZ S) (sC S) (sF S) (sP S) la (nI (sL S)) mk mb ma mv bd (sN S) κ ω (sF S) (sT S) (sB S) (sZ S) (sC S)) [(3, .int (nI (i + 6))), (2, .ref om), (1, .ref ox), (0, .ref b)] 18 []) (S : St) (τ κ ω : Nu) (tk st be nu la mk mb ma mv : Int32) (bd : Bool) (hS : InS S) (hκ : sP S = true → κ = sK S) : JJ G K 44 953 (WG G ox om ax am qh qt qk sh nh (sP S) (sN S) τ (sK S) (nI (sL S)) (sT S) tk st be nu (sB S) (sZ S) (sC S) (sF S) (sP S) la (nI (sL S)) mk mb ma mv bd (sN S) κ ω (sF S) (sT S) (sB S) (sZ S) (sC S)) [(3, .int (nI (i))), (2, .ref om), (1, .ref ox), (0, .ref b)] 535 [] := by
  refine j_aload_n 535 cx 2 dL_law_535 rfl ?_
  refine j_aload_n 536 cx 3 dL_law_536 rfl ?_
  refine j_iload_n 537 cx 0 dL_law_537 rfl ?_
  refine j_iconst 538 cx 1 dL_law_538 (by decide) ?_
  refine j_iadd 539 cx dL_law_539 ?_
  refine j_top (nI (i + 1)) (nI_add i 1) ?_
  refine j_sld 540 cx hX hbl hbA (i + 1) rfl (by omega) (by omega) dL_law_540 ?_
  refine j_aload_n 541 cx 3 dL_law_541 rfl ?_
  refine j_iload_n 542 cx 0 dL_law_542 rfl ?_
  refine j_iconst 543 cx 2 dL_law_543 (by decide) ?_
  refine j_iadd 544 cx dL_law_544 ?_
  refine j_top (nI (i + 2)) (nI_add i 2) ?_
  refine j_sld 545 cx hX hbl hbA (i + 2) rfl (by omega) (by omega) dL_law_545 ?_
  refine j_callV_i 546 cx 2 [0, 34, 1, 2, 3, 4, 5, 6, 7, 8, 9, 10, 11, 12, 13, 14] [.int (xs (i + 1)), .int (xs (i + 2))] (fun zu1 => WG G ox om ax am qh qt qk sh nh (sP S) (sN (sp_then (xs (i + 1)) (xs (i + 2)) S).2) zu1 (sK S) (nI (sL S)) (sT S) tk st be nu (sB S) (sZ S) (sC S) (sF (sp_then (xs (i + 1)) (xs (i + 2)) S).2) (sP S) la (nI (sL S)) mk mb ma mv bd (sN S) κ ω (sF S) (sT S) (sB S) (sZ S) (sC S)) (c_X5_then (kl K) G ox ax qh qt qk S τ hS.1.1 hS.1.2.1 (xs (i + 1)) (xs (i + 2))) gL_law_X5_then rfl rfl rfl ⟨rfl, by decide, by decide, rfl⟩ ⟨Nat.le_of_ble_eq_true rfl, Nat.le_of_ble_eq_true rfl⟩ ⟨Nat.le_of_ble_eq_true rfl, Nat.le_of_ble_eq_true rfl⟩ rfl (by decide) (ci := 4) 0 rfl rfl rfl rfl rfl (Nat.le_of_ble_eq_true rfl) dL_law_546 (fun zu1 => by simp only [WG, rep, List.cons_append, List.nil_append, List.set_cons_zero, List.set_cons_succ] <;> rfl) (fun zu1 zk9 => ?_)
  refine j_top ((sp_then (xs (i + 1)) (xs (i + 2)) S).1) rfl ?_
  refine j_aload_n 549 cx 1 dL_law_549 rfl ?_
  refine j_aload_n 550 cx 3 dL_law_550 rfl ?_
  refine j_iload_n 551 cx 0 dL_law_551 rfl ?_
  refine j_iconst 552 cx 1 dL_law_552 (by decide) ?_
  refine j_iadd 553 cx dL_law_553 ?_
  refine j_top (nI (i + 1)) (nI_add i 1) ?_
  refine j_sld 554 cx hX hbl hbA (i + 1) rfl (by omega) (by omega) dL_law_554 ?_
  refine j_aload_n 555 cx 3 dL_law_555 rfl ?_
  refine j_iload_n 556 cx 0 dL_law_556 rfl ?_
  refine j_iconst 557 cx 2 dL_law_557 (by decide) ?_
  refine j_iadd 558 cx dL_law_558 ?_
  refine j_top (nI (i + 2)) (nI_add i 2) ?_
  refine j_sld 559 cx hX hbl hbA (i + 2) rfl (by omega) (by omega) dL_law_559 ?_
  refine j_callV_i 560 cx 2 [35, 36, 39, 38] [.int (xs (i + 1)), .int (xs (i + 2))] (fun zu2 => WG G ox om ax am qh qt qk sh nh (sP S) (sN (sp_then (xs (i + 1)) (xs (i + 2)) S).2) zu1 (sK S) (nI (sL S)) (sT S) tk st be nu (sB S) (sZ S) (sC S) (sF (sp_then (xs (i + 1)) (xs (i + 2)) S).2) (sP S) (zu2.1) (nI (sL S)) mk mb ma mv bd (sN (sp_then (xs (i + 1)) (xs (i + 2)) S).2) κ (zu2.2) (sF (sp_then (xs (i + 1)) (xs (i + 2)) S).2) (sT S) (sB S) (sZ S) (sC S)) (c_X6_then (kl K) G om am S la mk mb ma mv bd ω hS.1.1 hS.1.2.1 (xs (i + 1)) (xs (i + 2))) gL_law_X6_then rfl rfl rfl ⟨rfl, by decide, by decide, rfl⟩ ⟨Nat.le_of_ble_eq_true rfl, Nat.le_of_ble_eq_true rfl⟩ ⟨Nat.le_of_ble_eq_true rfl, Nat.le_of_ble_eq_true rfl⟩ rfl (by decide) (ci := 5) 0 rfl rfl rfl rfl rfl (Nat.le_of_ble_eq_true rfl) dL_law_560 (fun zu2 => by simp only [WG, rep, List.cons_append, List.nil_append, List.set_cons_zero, List.set_cons_succ] <;> rfl) (fun zu2 zk9 => ?_)
  refine j_top ((sp_then (xs (i + 1)) (xs (i + 2)) S).1) rfl ?_
  refine j_icmp_eq_T 563 cx 1171 dL_law_563 (by decide) rfl ?_
  refine j_iinc 1171 cx [(3, .int (nI (i + 6))), (2, .ref om), (1, .ref ox), (0, .ref b)] 0 (nI (i + 6)) dL_law_1171 rfl (iinc6 i) (by decide) rfl ?_
  refine j_goto 1174 cx 18 dL_law_1174 (by decide) ?_
  have hk := kp_then (xs (i + 1)) (xs (i + 2)) S
  have h9 := ih (sp_then (xs (i + 1)) (xs (i + 2)) S).2 zu1 κ (zu2.2) tk st be nu (zu2.1) mk mb ma mv bd (is_then (xs (i + 1)) (xs (i + 2)) hS) (fun q => by rw [hk.2.1] at q; rw [hk.1]; exact hκ q)
  rw [hk.1, hk.2.1, hk.2.2.1, hk.2.2.2.1, hk.2.2.2.2.1, hk.2.2.2.2.2.1, hk.2.2.2.2.2.2] at h9
  exact h9
