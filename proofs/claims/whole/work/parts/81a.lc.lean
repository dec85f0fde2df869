set_option maxRecDepth 100000 in
set_option maxHeartbeats 4000000 in
theorem lc_weary {G : pG} {K : pK} (cx : CX G K cL_law RL wsL_law 4 room_1) {b L : Nat} {xs : Nat → Int32} (hX : va_X b L xs (ks K) (ks K).heap) (hbl : b < (ks K).heap.size) (hbA : ¬ kA K b) (hL : L ≤ 3072) (ox om : Nat) (ax am qh qt qk sh nh : Nat → Nat) (i : Nat) (hi : i + 6 ≤ L) (ih : ∀ (S : St) (τ κ ω : Nu) (tk st be nu la mk mb ma mv : Int32) (bd : Bool), InS S → (sP S = true → κ = sK S) → JJ G K 44 953 (WG G ox om ax am qh qt qk sh nh (sP S) (sN S) τ (sK S) (nI (sL S)) (sT S) tk st be nu (sB S) (sZ S) (sC S) (sF S) (sP S) la (nI (sL S)) mk mb ma mv bd (sN S) κ ω (sF S) (sT S) (sB S) (sZ S) (sC S)) [(3, .int (nI (i + 6))), (2, .ref om), (1, .ref ox), (0, .ref b)] 18 []) (S : St) (τ κ ω : Nu) (tk st be nu la mk mb ma mv : Int32) (bd : Bool) (hS : InS S) (hκ : sP S = true → κ = sK S) : JJ G K 44 953 (WG G ox om ax am qh qt qk sh nh (sP S) (sN S) τ (sK S) (nI (sL S)) (sT S) tk st be nu (sB S) (sZ S) (sC S) (sF S) (sP S) la (nI (sL S)) mk mb ma mv bd (sN S) κ ω (sF S) (sT S) (sB S) (sZ S) (sC S)) [(3, .int (nI (i))), (2, .ref om), (1, .ref ox), (0, .ref b)] 192 [] := by
  refine j_aload_n 192 cx 2 dL_law_192 rfl ?_
  refine j_aload_n 193 cx 3 dL_law_193 rfl ?_
  refine j_iload_n 194 cx 0 dL_law_194 rfl ?_
  refine j_iconst 195 cx 1 dL_law_195 (by decide) ?_
  refine j_iadd 196 cx dL_law_196 ?_
  refine j_top (nI (i + 1)) (nI_add i 1) ?_
  refine j_sld 197 cx hX hbl hbA (i + 1) rfl (by omega) (by omega) dL_law_197 ?_
  refine j_callV_i 198 cx 1 [0, 34, 1, 2, 3, 4, 5, 6, 7] [.int (xs (i + 1))] (fun zu1 => WG G ox om ax am qh qt qk sh nh (sP S) (sN (sp_weary (xs (i + 1)) S).2) τ (sK S) (nI (sL S)) (sT S) tk st be nu (sB S) (sZ S) (sC S) (sF (sp_weary (xs (i + 1)) S).2) (sP S) la (nI (sL S)) mk mb ma mv bd (sN S) κ ω (sF S) (sT S) (sB S) (sZ S) (sC S)) (c_X5_weary (kl K) G ox ax qh qt qk S τ hS.1.1 hS.1.2.1 (xs (i + 1))) gL_law_X5_weary rfl rfl rfl ⟨rfl, by decide, by decide, rfl⟩ ⟨Nat.le_of_ble_eq_true rfl, Nat.le_of_ble_eq_true rfl⟩ ⟨Nat.le_of_ble_eq_true rfl, Nat.le_of_ble_eq_true rfl⟩ rfl (by decide) (ci := 4) 0 rfl rfl rfl rfl rfl (Nat.le_of_ble_eq_true rfl) dL_law_198 (fun zu1 => by simp only [WG, rep, List.cons_append, List.nil_append, List.set_cons_zero, List.set_cons_succ] <;> rfl) (fun zu1 zk9 => ?_)
  refine j_top ((sp_weary (xs (i + 1)) S).1) rfl ?_
  refine j_aload_n 201 cx 1 dL_law_201 rfl ?_
  refine j_aload_n 202 cx 3 dL_law_202 rfl ?_
  refine j_iload_n 203 cx 0 dL_law_203 rfl ?_
  refine j_iconst 204 cx 1 dL_law_204 (by decide) ?_
  refine j_iadd 205 cx dL_law_205 ?_
  refine j_top (nI (i + 1)) (nI_add i 1) ?_
  refine j_sld 206 cx hX hbl hbA (i + 1) rfl (by omega) (by omega) dL_law_206 ?_
  refine j_callV_i 207 cx 1 [35, 36, 39] [.int (xs (i + 1))] (fun zu2 => WG G ox om ax am qh qt qk sh nh (sP S) (sN (sp_weary (xs (i + 1)) S).2) τ (sK S) (nI (sL S)) (sT S) tk st be nu (sB S) (sZ S) (sC S) (sF (sp_weary (xs (i + 1)) S).2) (sP S) la (nI (sL S)) mk mb ma mv bd (sN (sp_weary (xs (i + 1)) S).2) κ ω (sF (sp_weary (xs (i + 1)) S).2) (sT S) (sB S) (sZ S) (sC S)) (c_X6_weary (kl K) G om am S la mk mb ma mv bd ω hS.1.1 hS.1.2.1 (xs (i + 1))) gL_law_X6_weary rfl rfl rfl ⟨rfl, by decide, by decide, rfl⟩ ⟨Nat.le_of_ble_eq_true rfl, Nat.le_of_ble_eq_true rfl⟩ ⟨Nat.le_of_ble_eq_true rfl, Nat.le_of_ble_eq_true rfl⟩ rfl (by decide) (ci := 5) 0 rfl rfl rfl rfl rfl (Nat.le_of_ble_eq_true rfl) dL_law_207 (fun zu2 => by simp only [WG, rep, List.cons_append, List.nil_append, List.set_cons_zero, List.set_cons_succ] <;> rfl) (fun zu2 zk9 => ?_)
  refine j_top ((sp_weary (xs (i + 1)) S).1) rfl ?_
  refine j_icmp_eq_T 210 cx 1171 dL_law_210 (by decide) rfl ?_
  refine j_iinc 1171 cx [(3, .int (nI (i + 6))), (2, .ref om), (1, .ref ox), (0, .ref b)] 0 (nI (i + 6)) dL_law_1171 rfl (iinc6 i) (by decide) rfl ?_
  refine j_goto 1174 cx 18 dL_law_1174 (by decide) ?_
  have hk := kp_weary (xs (i + 1)) S
  have h9 := ih (sp_weary (xs (i + 1)) S).2 τ κ ω tk st be nu la mk mb ma mv bd (is_weary (xs (i + 1)) hS) (fun q => by rw [hk.2.1] at q; rw [hk.1]; exact hκ q)
  rw [hk.1, hk.2.1, hk.2.2.1, hk.2.2.2.1, hk.2.2.2.2.1, hk.2.2.2.2.2.1, hk.2.2.2.2.2.2] at h9
  exact h9
set_option maxRecDepth 100000 in
set_option maxHeartbeats 4000000 in
theorem lc_free {G : pG} {K : pK} (cx : CX G K cL_law RL wsL_law 4 room_1) {b L : Nat} {xs : Nat → Int32} (hX : va_X b L xs (ks K) (ks K).heap) (hbl : b < (ks K).heap.size) (hbA : ¬ kA K b) (hL : L ≤ 3072) (ox om : Nat) (ax am qh qt qk sh nh : Nat → Nat) (i : Nat) (hi : i + 6 ≤ L) (ih : ∀ (S : St) (τ κ ω : Nu) (tk st be nu la mk mb ma mv : Int32) (bd : Bool), InS S → (sP S = true → κ = sK S) → JJ G K 44 953 (WG G ox om ax am qh qt qk sh nh (sP S) (sN S) τ (sK S) (nI (sL S)) (sT S) tk st be nu (sB S) (sZ S) (sC S) (sF S) (sP S) la (nI (sL S)) mk mb ma mv bd (sN S) κ ω (sF S) (sT S) (sB S) (sZ S) (sC S)) [(3, .int (nI (i + 6))), (2, .ref om), (1, .ref ox), (0, .ref b)] 18 []) (S : St) (τ κ ω : Nu) (tk st be nu la mk mb ma mv : Int32) (bd : Bool) (hS : InS S) (hκ : sP S = true → κ = sK S) : JJ G K 44 953 (WG G ox om ax am qh qt qk sh nh (sP S) (sN S) τ (sK S) (nI (sL S)) (sT S) tk st be nu (sB S) (sZ S) (sC S) (sF S) (sP S) la (nI (sL S)) mk mb ma mv bd (sN S) κ ω (sF S) (sT S) (sB S) (sZ S) (sC S)) [(3, .int (nI (i))), (2, .ref om), (1, .ref ox), (0, .ref b)] 215 [] := by
  refine j_aload_n 215 cx 2 dL_law_215 rfl ?_
  refine j_aload_n 216 cx 3 dL_law_216 rfl ?_
  refine j_iload_n 217 cx 0 dL_law_217 rfl ?_
  refine j_iconst 218 cx 1 dL_law_218 (by decide) ?_
  refine j_iadd 219 cx dL_law_219 ?_
  refine j_top (nI (i + 1)) (nI_add i 1) ?_
  refine j_sld 220 cx hX hbl hbA (i + 1) rfl (by omega) (by omega) dL_law_220 ?_
  refine j_aload_n 221 cx 3 dL_law_221 rfl ?_
  refine j_iload_n 222 cx 0 dL_law_222 rfl ?_
  refine j_iconst 223 cx 2 dL_law_223 (by decide) ?_
  refine j_iadd 224 cx dL_law_224 ?_
  refine j_top (nI (i + 2)) (nI_add i 2) ?_
  refine j_sld 225 cx hX hbl hbA (i + 2) rfl (by omega) (by omega) dL_law_225 ?_
  refine j_callV_i 226 cx 2 [0, 34, 1, 2, 3, 4, 5, 6, 7] [.int (xs (i + 1)), .int (xs (i + 2))] (fun zu1 => WG G ox om ax am qh qt qk sh nh (sP S) (sN (sp_free (xs (i + 1)) (xs (i + 2)) S).2) τ (sK S) (nI (sL S)) (sT S) tk st be nu (sB S) (sZ S) (sC S) (sF (sp_free (xs (i + 1)) (xs (i + 2)) S).2) (sP S) la (nI (sL S)) mk mb ma mv bd (sN S) κ ω (sF S) (sT S) (sB S) (sZ S) (sC S)) (c_X5_free (kl K) G ox ax qh qt qk S τ hS.1.1 hS.1.2.1 (xs (i + 1)) (xs (i + 2))) gL_law_X5_free rfl rfl rfl ⟨rfl, by decide, by decide, rfl⟩ ⟨Nat.le_of_ble_eq_true rfl, Nat.le_of_ble_eq_true rfl⟩ ⟨Nat.le_of_ble_eq_true rfl, Nat.le_of_ble_eq_true rfl⟩ rfl (by decide) (ci := 4) 0 rfl rfl rfl rfl rfl (Nat.le_of_ble_eq_true rfl) dL_law_226 (fun zu1 => by simp only [WG, rep, List.cons_append, List.nil_append, List.set_cons_zero, List.set_cons_succ] <;> rfl) (fun zu1 zk9 => ?_)
  refine j_top ((sp_free (xs (i + 1)) (xs (i + 2)) S).1) rfl ?_
  refine j_aload_n 229 cx 1 dL_law_229 rfl ?_
  refine j_aload_n 230 cx 3 dL_law_230 rfl ?_
  refine j_iload_n 231 cx 0 dL_law_231 rfl ?_
  refine j_iconst 232 cx 1 dL_law_232 (by decide) ?_
  refine j_iadd 233 cx dL_law_233 ?_
  refine j_top (nI (i + 1)) (nI_add i 1) ?_
  refine j_sld 234 cx hX hbl hbA (i + 1) rfl (by omega) (by omega) dL_law_234 ?_
  refine j_aload_n 235 cx 3 dL_law_235 rfl ?_
  refine j_iload_n 236 cx 0 dL_law_236 rfl ?_
  refine j_iconst 237 cx 2 dL_law_237 (by decide) ?_
  refine j_iadd 238 cx dL_law_238 ?_
  refine j_top (nI (i + 2)) (nI_add i 2) ?_
  refine j_sld 239 cx hX hbl hbA (i + 2) rfl (by omega) (by omega) dL_law_239 ?_
  refine j_callV_i 240 cx 2 [35, 36, 39] [.int (xs (i + 1)), .int (xs (i + 2))] (fun zu2 => WG G ox om ax am qh qt qk sh nh (sP S) (sN (sp_free (xs (i + 1)) (xs (i + 2)) S).2) τ (sK S) (nI (sL S)) (sT S) tk st be nu (sB S) (sZ S) (sC S) (sF (sp_free (xs (i + 1)) (xs (i + 2)) S).2) (sP S) la (nI (sL S)) mk mb ma mv bd (sN (sp_free (xs (i + 1)) (xs (i + 2)) S).2) κ ω (sF (sp_free (xs (i + 1)) (xs (i + 2)) S).2) (sT S) (sB S) (sZ S) (sC S)) (c_X6_free (kl K) G om am S la mk mb ma mv bd ω hS.1.1 hS.1.2.1 (xs (i + 1)) (xs (i + 2))) gL_law_X6_free rfl rfl rfl ⟨rfl, by decide, by decide, rfl⟩ ⟨Nat.le_of_ble_eq_true rfl, Nat.le_of_ble_eq_true rfl⟩ ⟨Nat.le_of_ble_eq_true rfl, Nat.le_of_ble_eq_true rfl⟩ rfl (by decide) (ci := 5) 0 rfl rfl rfl rfl rfl (Nat.le_of_ble_eq_true rfl) dL_law_240 (fun zu2 => by simp only [WG, rep, List.cons_append, List.nil_append, List.set_cons_zero, List.set_cons_succ] <;> rfl) (fun zu2 zk9 => ?_)
  refine j_top ((sp_free (xs (i + 1)) (xs (i + 2)) S).1) rfl ?_
  refine j_icmp_eq_T 243 cx 1171 dL_law_243 (by decide) rfl ?_
  refine j_iinc 1171 cx [(3, .int (nI (i + 6))), (2, .ref om), (1, .ref ox), (0, .ref b)] 0 (nI (i + 6)) dL_law_1171 rfl (iinc6 i) (by decide) rfl ?_
  refine j_goto 1174 cx 18 dL_law_1174 (by decide) ?_
  have hk := kp_free (xs (i + 1)) (xs (i + 2)) S
  have h9 := ih (sp_free (xs (i + 1)) (xs (i + 2)) S).2 τ κ ω tk st be nu la mk mb ma mv bd (is_free (xs (i + 1)) (xs (i + 2)) hS) (fun q => by rw [hk.2.1] at q; rw [hk.1]; exact hκ q)
  rw [hk.1, hk.2.1, hk.2.2.1, hk.2.2.2.1, hk.2.2.2.2.1, hk.2.2.2.2.2.1, hk.2.2.2.2.2.2] at h9
  exact h9
set_option maxRecDepth 100000 in
set_option maxHeartbeats 4000000 in
theorem lc_now {G : pG} {K : pK} (cx : CX G K cL_law RL wsL_law 4 room_1) {b L : Nat} {xs : Nat → Int32} (hX : va_X b L xs (ks K) (ks K).heap) (hbl : b < (ks K).heap.size) (hbA : ¬ kA K b) (hL : L ≤ 3072) (ox om : Nat) (ax am qh qt qk sh nh : Nat → Nat) (i : Nat) (hi : i + 6 ≤ L) (ih : ∀ (S : St) (τ κ ω : Nu) (tk st be nu la mk mb ma mv : Int32) (bd : Bool), InS S → (sP S = true → κ = sK S) → JJ G K 44 953 (WG G ox om ax am qh qt qk sh nh (sP S) (sN S) τ (sK S) (nI (sL S)) (sT S) tk st be nu (sB S) (sZ S) (sC S) (sF S) (sP S) la (nI (sL S)) mk mb ma mv bd (sN S) κ ω (sF S) (sT S) (sB S) (sZ S) (sC S)) [(3, .int (nI (i + 6))), (2, .ref om), (1, .ref ox), (0, .ref b)] 18 []) (S : St) (τ κ ω : Nu) (tk st be nu la mk mb ma mv : Int32) (bd : Bool) (hS : InS S) (hκ : sP S = true → κ = sK S) : JJ G K 44 953 (WG G ox om ax am qh qt qk sh nh (sP S) (sN S) τ (sK S) (nI (sL S)) (sT S) tk st be nu (sB S) (sZ S) (sC S) (sF S) (sP S) la (nI (sL S)) mk mb ma mv bd (sN S) κ ω (sF S) (sT S) (sB S) (sZ S) (sC S)) [(3, .int (nI (i))), (2, .ref om), (1, .ref ox), (0, .ref b)] 248 [] := by
  refine j_aload_n 248 cx 2 dL_law_248 rfl ?_
  refine j_aload_n 249 cx 3 dL_law_249 rfl ?_
  refine j_iload_n 250 cx 0 dL_law_250 rfl ?_
  refine j_iconst 251 cx 1 dL_law_251 (by decide) ?_
  refine j_iadd 252 cx dL_law_252 ?_
  refine j_top (nI (i + 1)) (nI_add i 1) ?_
  refine j_sld 253 cx hX hbl hbA (i + 1) rfl (by omega) (by omega) dL_law_253 ?_
  refine j_callV_i 254 cx 1 [0, 34, 1, 2, 3, 4, 5, 6, 7] [.int (xs (i + 1))] (fun zu1 => WG G ox om ax am qh qt qk sh nh (sP S) (sN (sp_now (xs (i + 1)) S).2) τ (sK S) (nI (sL S)) (sT S) tk st be nu (sB S) (sZ S) (sC S) (sF (sp_now (xs (i + 1)) S).2) (sP S) la (nI (sL S)) mk mb ma mv bd (sN S) κ ω (sF S) (sT S) (sB S) (sZ S) (sC S)) (c_X5_now (kl K) G ox ax qh qt qk S τ hS.1.1 hS.1.2.1 (xs (i + 1))) gL_law_X5_now rfl rfl rfl ⟨rfl, by decide, by decide, rfl⟩ ⟨Nat.le_of_ble_eq_true rfl, Nat.le_of_ble_eq_true rfl⟩ ⟨Nat.le_of_ble_eq_true rfl, Nat.le_of_ble_eq_true rfl⟩ rfl (by decide) (ci := 4) 0 rfl rfl rfl rfl rfl (Nat.le_of_ble_eq_true rfl) dL_law_254 (fun zu1 => by simp only [WG, rep, List.cons_append, List.nil_append, List.set_cons_zero, List.set_cons_succ] <;> rfl) (fun zu1 zk9 => ?_)
  refine j_top ((sp_now (xs (i + 1)) S).1) rfl ?_
  refine j_aload_n 257 cx 1 dL_law_257 rfl ?_
  refine j_aload_n 258 cx 3 dL_law_258 rfl ?_
  refine j_iload_n 259 cx 0 dL_law_259 rfl ?_
  refine j_iconst 260 cx 1 dL_law_260 (by decide) ?_
  refine j_iadd 261 cx dL_law_261 ?_
  refine j_top (nI (i + 1)) (nI_add i 1) ?_
  refine j_sld 262 cx hX hbl hbA (i + 1) rfl (by omega) (by omega) dL_law_262 ?_
  refine j_callV_i 263 cx 1 [35, 36, 39] [.int (xs (i + 1))] (fun zu2 => WG G ox om ax am qh qt qk sh nh (sP S) (sN (sp_now (xs (i + 1)) S).2) τ (sK S) (nI (sL S)) (sT S) tk st be nu (sB S) (sZ S) (sC S) (sF (sp_now (xs (i + 1)) S).2) (sP S) la (nI (sL S)) mk mb ma mv bd (sN (sp_now (xs (i + 1)) S).2) κ ω (sF (sp_now (xs (i + 1)) S).2) (sT S) (sB S) (sZ S) (sC S)) (c_X6_now (kl K) G om am S la mk mb ma mv bd ω hS.1.1 hS.1.2.1 (xs (i + 1))) gL_law_X6_now rfl rfl rfl ⟨rfl, by decide, by decide, rfl⟩ ⟨Nat.le_of_ble_eq_true rfl, Nat.le_of_ble_eq_true rfl⟩ ⟨Nat.le_of_ble_eq_true rfl, Nat.le_of_ble_eq_true rfl⟩ rfl (by decide) (ci := 5) 0 rfl rfl rfl rfl rfl (Nat.le_of_ble_eq_true rfl) dL_law_263 (fun zu2 => by simp only [WG, rep, List.cons_append, List.nil_append, List.set_cons_zero, List.set_cons_succ] <;> rfl) (fun zu2 zk9 => ?_)
  refine j_top ((sp_now (xs (i + 1)) S).1) rfl ?_
  refine j_icmp_eq_T 266 cx 1171 dL_law_266 (by decide) rfl ?_
  refine j_iinc 1171 cx [(3, .int (nI (i + 6))), (2, .ref om), (1, .ref ox), (0, .ref b)] 0 (nI (i + 6)) dL_law_1171 rfl (iinc6 i) (by decide) rfl ?_
  refine j_goto 1174 cx 18 dL_law_1174 (by decide) ?_
  have hk := kp_now (xs (i + 1)) S
  have h9 := ih (sp_now (xs (i + 1)) S).2 τ κ ω tk st be nu la mk mb ma mv bd (is_now (xs (i + 1)) hS) (fun q => by rw [hk.2.1] at q; rw [hk.1]; exact hκ q)
  rw [hk.1, hk.2.1, hk.2.2.1, hk.2.2.2.1, hk.2.2.2.2.1, hk.2.2.2.2.2.1, hk.2.2.2.2.2.2] at h9
  exact h9
set_option maxRecDepth 100000 in
set_option maxHeartbeats 4000000 in
theorem lc_part {G : pG} {K : pK} (cx : CX G K cL_law RL wsL_law 4 room_1) {b L : Nat} {xs : Nat → Int32} (hX : va_X b L xs (ks K) (ks K).heap) (hbl : b < (ks K).heap.size) (hbA : ¬ kA K b) (hL : L ≤ 3072) (ox om : Nat) (ax am qh qt qk sh nh : Nat → Nat) (i : Nat) (hi : i + 6 ≤ L) (ih : ∀ (S : St) (τ κ ω : Nu) (tk st be nu la mk mb ma mv : Int32) (bd : Bool), InS S → (sP S = true → κ = sK S) → JJ G K 44 953 (WG G ox om ax am qh qt qk sh nh (sP S) (sN S) τ (sK S) (nI (sL S)) (sT S) tk st be nu (sB S) (sZ S) (sC S) (sF S) (sP S) la (nI (sL S)) mk mb ma mv bd (sN S) κ ω (sF S) (sT S) (sB S) (sZ S) (sC S)) [(3, .int (nI (i + 6))), (2, .ref om), (1, .ref ox), (0, .ref b)] 18 []) (S : St) (τ κ ω : Nu) (tk st be nu la mk mb ma mv : Int32) (bd : Bool) (hS : InS S) (hκ : sP S = true → κ = sK S) : JJ G K 44 953 (WG G ox om ax am qh qt qk sh nh (sP S) (sN S) τ (sK S) (nI (sL S)) (sT S) tk st be nu (sB S) (sZ S) (sC S) (sF S) (sP S) la (nI (sL S)) mk mb ma mv bd (sN S) κ ω (sF S) (sT S) (sB S) (sZ S) (sC S)) [(3, .int (nI (i))), (2, .ref om), (1, .ref ox), (0, .ref b)] 271 [] := by
  refine j_aload_n 271 cx 2 dL_law_271 rfl ?_
  refine j_aload_n 272 cx 3 dL_law_272 rfl ?_
  refine j_iload_n 273 cx 0 dL_law_273 rfl ?_
  refine j_iconst 274 cx 1 dL_law_274 (by decide) ?_
  refine j_iadd 275 cx dL_law_275 ?_
  refine j_top (nI (i + 1)) (nI_add i 1) ?_
  refine j_sld 276 cx hX hbl hbA (i + 1) rfl (by omega) (by omega) dL_law_276 ?_
  refine j_aload_n 277 cx 3 dL_law_277 rfl ?_
  refine j_iload_n 278 cx 0 dL_law_278 rfl ?_
  refine j_iconst 279 cx 2 dL_law_279 (by decide) ?_
  refine j_iadd 280 cx dL_law_280 ?_
  refine j_top (nI (i + 2)) (nI_add i 2) ?_
  refine j_sld 281 cx hX hbl hbA (i + 2) rfl (by omega) (by omega) dL_law_281 ?_
  refine j_callV_i 282 cx 2 [0, 34, 1, 2, 3, 4, 5, 6, 7] [.int (xs (i + 1)), .int (xs (i + 2))] (fun zu1 => WG G ox om ax am qh qt qk sh nh (sP S) (sN (sp_part (xs (i + 1)) (xs (i + 2)) S).2) τ (sK S) (nI (sL S)) (sT S) tk st be nu (sB S) (sZ S) (sC S) (sF (sp_part (xs (i + 1)) (xs (i + 2)) S).2) (sP S) la (nI (sL S)) mk mb ma mv bd (sN S) κ ω (sF S) (sT S) (sB S) (sZ S) (sC S)) (c_X5_part (kl K) G ox ax qh qt qk S τ hS.1.1 hS.1.2.1 (xs (i + 1)) (xs (i + 2))) gL_law_X5_part rfl rfl rfl ⟨rfl, by decide, by decide, rfl⟩ ⟨Nat.le_of_ble_eq_true rfl, Nat.le_of_ble_eq_true rfl⟩ ⟨Nat.le_of_ble_eq_true rfl, Nat.le_of_ble_eq_true rfl⟩ rfl (by decide) (ci := 4) 0 rfl rfl rfl rfl rfl (Nat.le_of_ble_eq_true rfl) dL_law_282 (fun zu1 => by simp only [WG, rep, List.cons_append, List.nil_append, List.set_cons_zero, List.set_cons_succ] <;> rfl) (fun zu1 zk9 => ?_)
  refine j_top ((sp_part (xs (i + 1)) (xs (i + 2)) S).1) rfl ?_
  refine j_aload_n 285 cx 1 dL_law_285 rfl ?_
  refine j_aload_n 286 cx 3 dL_law_286 rfl ?_
  refine j_iload_n 287 cx 0 dL_law_287 rfl ?_
  refine j_iconst 288 cx 1 dL_law_288 (by decide) ?_
  refine j_iadd 289 cx dL_law_289 ?_
  refine j_top (nI (i + 1)) (nI_add i 1) ?_
  refine j_sld 290 cx hX hbl hbA (i + 1) rfl (by omega) (by omega) dL_law_290 ?_
  refine j_aload_n 291 cx 3 dL_law_291 rfl ?_
  refine j_iload_n 292 cx 0 dL_law_292 rfl ?_
  refine j_iconst 293 cx 2 dL_law_293 (by decide) ?_
  refine j_iadd 294 cx dL_law_294 ?_
  refine j_top (nI (i + 2)) (nI_add i 2) ?_
  refine j_sld 295 cx hX hbl hbA (i + 2) rfl (by omega) (by omega) dL_law_295 ?_
  refine j_callV_i 296 cx 2 [35, 36, 39] [.int (xs (i + 1)), .int (xs (i + 2))] (fun zu2 => WG G ox om ax am qh qt qk sh nh (sP S) (sN (sp_part (xs (i + 1)) (xs (i + 2)) S).2) τ (sK S) (nI (sL S)) (sT S) tk st be nu (sB S) (sZ S) (sC S) (sF (sp_part (xs (i + 1)) (xs (i + 2)) S).2) (sP S) la (nI (sL S)) mk mb ma mv bd (sN (sp_part (xs (i + 1)) (xs (i + 2)) S).2) κ ω (sF (sp_part (xs (i + 1)) (xs (i + 2)) S).2) (sT S) (sB S) (sZ S) (sC S)) (c_X6_part (kl K) G om am S la mk mb ma mv bd ω hS.1.1 hS.1.2.1 (xs (i + 1)) (xs (i + 2))) gL_law_X6_part rfl rfl rfl ⟨rfl, by decide, by decide, rfl⟩ ⟨Nat.le_of_ble_eq_true rfl, Nat.le_of_ble_eq_true rfl⟩ ⟨Nat.le_of_ble_eq_true rfl, Nat.le_of_ble_eq_true rfl⟩ rfl (by decide) (ci := 5) 0 rfl rfl rfl rfl rfl (Nat.le_of_ble_eq_true rfl) dL_law_296 (fun zu2 => by simp only [WG, rep, List.cons_append, List.nil_append, List.set_cons_zero, List.set_cons_succ] <;> rfl) (fun zu2 zk9 => ?_)
  refine j_top ((sp_part (xs (i + 1)) (xs (i + 2)) S).1) rfl ?_
  refine j_icmp_eq_T 299 cx 1171 dL_law_299 (by decide) rfl ?_
  refine j_iinc 1171 cx [(3, .int (nI (i + 6))), (2, .ref om), (1, .ref ox), (0, .ref b)] 0 (nI (i + 6)) dL_law_1171 rfl (iinc6 i) (by decide) rfl ?_
  refine j_goto 1174 cx 18 dL_law_1174 (by decide) ?_
  have hk := kp_part (xs (i + 1)) (xs (i + 2)) S
  have h9 := ih (sp_part (xs (i + 1)) (xs (i + 2)) S).2 τ κ ω tk st be nu la mk mb ma mv bd (is_part (xs (i + 1)) (xs (i + 2)) hS) (fun q => by rw [hk.2.1] at q; rw [hk.1]; exact hκ q)
  rw [hk.1, hk.2.1, hk.2.2.1, hk.2.2.2.1, hk.2.2.2.2.1, hk.2.2.2.2.2.1, hk.2.2.2.2.2.2] at h9
  exact h9
set_option maxRecDepth 100000 in
set_option maxHeartbeats 4000000 in
theorem lc_of {G : pG} {K : pK} (cx : CX G K cL_law RL wsL_law 4 room_1) {b L : Nat} {xs : Nat → Int32} (hX : va_X b L xs (ks K) (ks K).heap) (hbl : b < (ks K).heap.size) (hbA : ¬ kA K b) (hL : L ≤ 3072) (ox om : Nat) (ax am qh qt qk sh nh : Nat → Nat) (i : Nat) (hi : i + 6 ≤ L) (ih : ∀ (S : St) (τ κ ω : Nu) (tk st be nu la mk mb ma mv : Int32) (bd : Bool), InS S → (sP S = true → κ = sK S) → JJ G K 44 953 (WG G ox om ax am qh qt qk sh nh (sP S) (sN S) τ (sK S) (nI (sL S)) (sT S) tk st be nu (sB S) (sZ S) (sC S) (sF S) (sP S) la (nI (sL S)) mk mb ma mv bd (sN S) κ ω (sF S) (sT S) (sB S) (sZ S) (sC S)) [(3, .int (nI (i + 6))), (2, .ref om), (1, .ref ox), (0, .ref b)] 18 []) (S : St) (τ κ ω : Nu) (tk st be nu la mk mb ma mv : Int32) (bd : Bool) (hS : InS S) (hκ : sP S = true → κ = sK S) : JJ G K 44 953 (WG G ox om ax am qh qt qk sh nh (sP S) (sN S) τ (sK S) (nI (sL S)) (sT S) tk st be nu (sB S) (sZ S) (sC S) (sF S) (sP S) la (nI (sL S)) mk mb ma mv bd (sN S) κ ω (sF S) (sT S) (sB S) (sZ S) (sC S)) [(3, .int (nI (i))), (2, .ref om), (1, .ref ox), (0, .ref b)] 304 [] := by
  refine j_aload_n 304 cx 2 dL_law_304 rfl ?_
  refine j_aload_n 305 cx 3 dL_law_305 rfl ?_
  refine j_iload_n 306 cx 0 dL_law_306 rfl ?_
  refine j_iconst 307 cx 1 dL_law_307 (by decide) ?_
  refine j_iadd 308 cx dL_law_308 ?_
  refine j_top (nI (i + 1)) (nI_add i 1) ?_
  refine j_sld 309 cx hX hbl hbA (i + 1) rfl (by omega) (by omega) dL_law_309 ?_
  refine j_aload_n 310 cx 3 dL_law_310 rfl ?_
  refine j_iload_n 311 cx 0 dL_law_311 rfl ?_
  refine j_iconst 312 cx 2 dL_law_312 (by decide) ?_
  refine j_iadd 313 cx dL_law_313 ?_
  refine j_top (nI (i + 2)) (nI_add i 2) ?_
  refine j_sld 314 cx hX hbl hbA (i + 2) rfl (by omega) (by omega) dL_law_314 ?_
  refine j_callV_i 315 cx 2 [0, 34, 1, 2, 3, 4, 5, 6, 7] [.int (xs (i + 1)), .int (xs (i + 2))] (fun zu1 => WG G ox om ax am qh qt qk sh nh (sP S) (sN (sp_of (xs (i + 1)) (xs (i + 2)) S).2) τ (sK S) (nI (sL S)) (sT S) tk st be nu (sB S) (sZ S) (sC S) (sF (sp_of (xs (i + 1)) (xs (i + 2)) S).2) (sP S) la (nI (sL S)) mk mb ma mv bd (sN S) κ ω (sF S) (sT S) (sB S) (sZ S) (sC S)) (c_X5_of (kl K) G ox ax qh qt qk S τ hS.1.1 hS.1.2.1 (xs (i + 1)) (xs (i + 2))) gL_law_X5_of rfl rfl rfl ⟨rfl, by decide, by decide, rfl⟩ ⟨Nat.le_of_ble_eq_true rfl, Nat.le_of_ble_eq_true rfl⟩ ⟨Nat.le_of_ble_eq_true rfl, Nat.le_of_ble_eq_true rfl⟩ rfl (by decide) (ci := 4) 0 rfl rfl rfl rfl rfl (Nat.le_of_ble_eq_true rfl) dL_law_315 (fun zu1 => by simp only [WG, rep, List.cons_append, List.nil_append, List.set_cons_zero, List.set_cons_succ] <;> rfl) (fun zu1 zk9 => ?_)
  refine j_top ((sp_of (xs (i + 1)) (xs (i + 2)) S).1) rfl ?_
  refine j_aload_n 318 cx 1 dL_law_318 rfl ?_
  refine j_aload_n 319 cx 3 dL_law_319 rfl ?_
  refine j_iload_n 320 cx 0 dL_law_320 rfl ?_
  refine j_iconst 321 cx 1 dL_law_321 (by decide) ?_
  refine j_iadd 322 cx dL_law_322 ?_
  refine j_top (nI (i + 1)) (nI_add i 1) ?_
  refine j_sld 323 cx hX hbl hbA (i + 1) rfl (by omega) (by omega) dL_law_323 ?_
  refine j_aload_n 324 cx 3 dL_law_324 rfl ?_
  refine j_iload_n 325 cx 0 dL_law_325 rfl ?_
  refine j_iconst 326 cx 2 dL_law_326 (by decide) ?_
  refine j_iadd 327 cx dL_law_327 ?_
  refine j_top (nI (i + 2)) (nI_add i 2) ?_
  refine j_sld 328 cx hX hbl hbA (i + 2) rfl (by omega) (by omega) dL_law_328 ?_
  refine j_callV_i 329 cx 2 [35, 36, 39] [.int (xs (i + 1)), .int (xs (i + 2))] (fun zu2 => WG G ox om ax am qh qt qk sh nh (sP S) (sN (sp_of (xs (i + 1)) (xs (i + 2)) S).2) τ (sK S) (nI (sL S)) (sT S) tk st be nu (sB S) (sZ S) (sC S) (sF (sp_of (xs (i + 1)) (xs (i + 2)) S).2) (sP S) la (nI (sL S)) mk mb ma mv bd (sN (sp_of (xs (i + 1)) (xs (i + 2)) S).2) κ ω (sF (sp_of (xs (i + 1)) (xs (i + 2)) S).2) (sT S) (sB S) (sZ S) (sC S)) (c_X6_of (kl K) G om am S la mk mb ma mv bd ω hS.1.1 hS.1.2.1 (xs (i + 1)) (xs (i + 2))) gL_law_X6_of rfl rfl rfl ⟨rfl, by decide, by decide, rfl⟩ ⟨Nat.le_of_ble_eq_true rfl, Nat.le_of_ble_eq_true rfl⟩ ⟨Nat.le_of_ble_eq_true rfl, Nat.le_of_ble_eq_true rfl⟩ rfl (by decide) (ci := 5) 0 rfl rfl rfl rfl rfl (Nat.le_of_ble_eq_true rfl) dL_law_329 (fun zu2 => by simp only [WG, rep, List.cons_append, List.nil_append, List.set_cons_zero, List.set_cons_succ] <;> rfl) (fun zu2 zk9 => ?_)
  refine j_top ((sp_of (xs (i + 1)) (xs (i + 2)) S).1) rfl ?_
  refine j_icmp_eq_T 332 cx 1171 dL_law_332 (by decide) rfl ?_
  refine j_iinc 1171 cx [(3, .int (nI (i + 6))), (2, .ref om), (1, .ref ox), (0, .ref b)] 0 (nI (i + 6)) dL_law_1171 rfl (iinc6 i) (by decide) rfl ?_
  refine j_goto 1174 cx 18 dL_law_1174 (by decide) ?_
  have hk := kp_of (xs (i + 1)) (xs (i + 2)) S
  have h9 := ih (sp_of (xs (i + 1)) (xs (i + 2)) S).2 τ κ ω tk st be nu la mk mb ma mv bd (is_of (xs (i + 1)) (xs (i + 2)) hS) (fun q => by rw [hk.2.1] at q; rw [hk.1]; exact hκ q)
  rw [hk.1, hk.2.1, hk.2.2.1, hk.2.2.2.1, hk.2.2.2.2.1, hk.2.2.2.2.2.1, hk.2.2.2.2.2.2] at h9
  exact h9
set_option maxRecDepth 100000 in
set_option maxHeartbeats 4000000 in
theorem lc_set {G : pG} {K : pK} (cx : CX G K cL_law RL wsL_law 4 room_1) {b L : Nat} {xs : Nat → Int32} (hX : va_X b L xs (ks K) (ks K).heap) (hbl : b < (ks K).heap.size) (hbA : ¬ kA K b) (hL : L ≤ 3072) (ox om : Nat) (ax am qh qt qk sh nh : Nat → Nat) (i : Nat) (hi : i + 6 ≤ L) (ih : ∀ (S : St) (τ κ ω : Nu) (tk st be nu la mk mb ma mv : Int32) (bd : Bool), InS S → (sP S = true → κ = sK S) → JJ G K 44 953 (WG G ox om ax am qh qt qk sh nh (sP S) (sN S) τ (sK S) (nI (sL S)) (sT S) tk st be nu (sB S) (sZ S) (sC S) (sF S) (sP S) la (nI (sL S)) mk mb ma mv bd (sN S) κ ω (sF S) (sT S) (sB S) (sZ S) (sC S)) [(3, .int (nI (i + 6))), (2, .ref om), (1, .ref ox), (0, .ref b)] 18 []) (S : St) (τ κ ω : Nu) (tk st be nu la mk mb ma mv : Int32) (bd : Bool) (hS : InS S) (hκ : sP S = true → κ = sK S) : JJ G K 44 953 (WG G ox om ax am qh qt qk sh nh (sP S) (sN S) τ (sK S) (nI (sL S)) (sT S) tk st be nu (sB S) (sZ S) (sC S) (sF S) (sP S) la (nI (sL S)) mk mb ma mv bd (sN S) κ ω (sF S) (sT S) (sB S) (sZ S) (sC S)) [(3, .int (nI (i))), (2, .ref om), (1, .ref ox), (0, .ref b)] 337 [] := by
  refine j_aload_n 337 cx 2 dL_law_337 rfl ?_
  refine j_aload_n 338 cx 3 dL_law_338 rfl ?_
  refine j_iload_n 339 cx 0 dL_law_339 rfl ?_
  refine j_iconst 340 cx 1 dL_law_340 (by decide) ?_
  refine j_iadd 341 cx dL_law_341 ?_
  refine j_top (nI (i + 1)) (nI_add i 1) ?_
  refine j_sld 342 cx hX hbl hbA (i + 1) rfl (by omega) (by omega) dL_law_342 ?_
  refine j_aload_n 343 cx 3 dL_law_343 rfl ?_
  refine j_iload_n 344 cx 0 dL_law_344 rfl ?_
  refine j_iconst 345 cx 2 dL_law_345 (by decide) ?_
  refine j_iadd 346 cx dL_law_346 ?_
  refine j_top (nI (i + 2)) (nI_add i 2) ?_
  refine j_sld 347 cx hX hbl hbA (i + 2) rfl (by omega) (by omega) dL_law_347 ?_
  refine j_aload_n 348 cx 3 dL_law_348 rfl ?_
  refine j_iload_n 349 cx 0 dL_law_349 rfl ?_
  refine j_iconst 350 cx 3 dL_law_350 (by decide) ?_
  refine j_iadd 351 cx dL_law_351 ?_
  refine j_top (nI (i + 3)) (nI_add i 3) ?_
  refine j_sld 352 cx hX hbl hbA (i + 3) rfl (by omega) (by omega) dL_law_352 ?_
  refine j_callV_i 353 cx 3 [0, 34, 1, 2, 3, 4, 5, 6, 7] [.int (xs (i + 1)), .int (xs (i + 2)), .int (xs (i + 3))] (fun zu1 => WG G ox om ax am qh qt qk sh nh (sP S) (sN (sp_set (xs (i + 1)) (xs (i + 2)) (xs (i + 3)) S).2) τ (sK S) (nI (sL S)) (sT S) tk st be nu (sB S) (sZ S) (sC S) (sF (sp_set (xs (i + 1)) (xs (i + 2)) (xs (i + 3)) S).2) (sP S) la (nI (sL S)) mk mb ma mv bd (sN S) κ ω (sF S) (sT S) (sB S) (sZ S) (sC S)) (c_X5_set (kl K) G ox ax qh qt qk S τ hS.1.1 hS.1.2.1 (xs (i + 1)) (xs (i + 2)) (xs (i + 3))) gL_law_X5_set rfl rfl rfl ⟨rfl, by decide, by decide, rfl⟩ ⟨Nat.le_of_ble_eq_true rfl, Nat.le_of_ble_eq_true rfl⟩ ⟨Nat.le_of_ble_eq_true rfl, Nat.le_of_ble_eq_true rfl⟩ rfl (by decide) (ci := 4) 0 rfl rfl rfl rfl rfl (Nat.le_of_ble_eq_true rfl) dL_law_353 (fun zu1 => by simp only [WG, rep, List.cons_append, List.nil_append, List.set_cons_zero, List.set_cons_succ] <;> rfl) (fun zu1 zk9 => ?_)
  refine j_top ((sp_set (xs (i + 1)) (xs (i + 2)) (xs (i + 3)) S).1) rfl ?_
  refine j_aload_n 356 cx 1 dL_law_356 rfl ?_
  refine j_aload_n 357 cx 3 dL_law_357 rfl ?_
  refine j_iload_n 358 cx 0 dL_law_358 rfl ?_
  refine j_iconst 359 cx 1 dL_law_359 (by decide) ?_
  refine j_iadd 360 cx dL_law_360 ?_
  refine j_top (nI (i + 1)) (nI_add i 1) ?_
  refine j_sld 361 cx hX hbl hbA (i + 1) rfl (by omega) (by omega) dL_law_361 ?_
  refine j_aload_n 362 cx 3 dL_law_362 rfl ?_
  refine j_iload_n 363 cx 0 dL_law_363 rfl ?_
  refine j_iconst 364 cx 2 dL_law_364 (by decide) ?_
  refine j_iadd 365 cx dL_law_365 ?_
  refine j_top (nI (i + 2)) (nI_add i 2) ?_
  refine j_sld 366 cx hX hbl hbA (i + 2) rfl (by omega) (by omega) dL_law_366 ?_
  refine j_aload_n 367 cx 3 dL_law_367 rfl ?_
  refine j_iload_n 368 cx 0 dL_law_368 rfl ?_
  refine j_iconst 369 cx 3 dL_law_369 (by decide) ?_
  refine j_iadd 370 cx dL_law_370 ?_
  refine j_top (nI (i + 3)) (nI_add i 3) ?_
  refine j_sld 371 cx hX hbl hbA (i + 3) rfl (by omega) (by omega) dL_law_371 ?_
  refine j_callV_i 372 cx 3 [35, 36, 39] [.int (xs (i + 1)), .int (xs (i + 2)), .int (xs (i + 3))] (fun zu2 => WG G ox om ax am qh qt qk sh nh (sP S) (sN (sp_set (xs (i + 1)) (xs (i + 2)) (xs (i + 3)) S).2) τ (sK S) (nI (sL S)) (sT S) tk st be nu (sB S) (sZ S) (sC S) (sF (sp_set (xs (i + 1)) (xs (i + 2)) (xs (i + 3)) S).2) (sP S) la (nI (sL S)) mk mb ma mv bd (sN (sp_set (xs (i + 1)) (xs (i + 2)) (xs (i + 3)) S).2) κ ω (sF (sp_set (xs (i + 1)) (xs (i + 2)) (xs (i + 3)) S).2) (sT S) (sB S) (sZ S) (sC S)) (c_X6_set (kl K) G om am S la mk mb ma mv bd ω hS.1.1 hS.1.2.1 (xs (i + 1)) (xs (i + 2)) (xs (i + 3))) gL_law_X6_set rfl rfl rfl ⟨rfl, by decide, by decide, rfl⟩ ⟨Nat.le_of_ble_eq_true rfl, Nat.le_of_ble_eq_true rfl⟩ ⟨Nat.le_of_ble_eq_true rfl, Nat.le_of_ble_eq_true rfl⟩ rfl (by decide) (ci := 5) 0 rfl rfl rfl rfl rfl (Nat.le_of_ble_eq_true rfl) dL_law_372 (fun zu2 => by simp only [WG, rep, List.cons_append, List.nil_append, List.set_cons_zero, List.set_cons_succ] <;> rfl) (fun zu2 zk9 => ?_)
  refine j_top ((sp_set (xs (i + 1)) (xs (i + 2)) (xs (i + 3)) S).1) rfl ?_
  refine j_icmp_eq_T 375 cx 1171 dL_law_375 (by decide) rfl ?_
  refine j_iinc 1171 cx [(3, .int (nI (i + 6))), (2, .ref om), (1, .ref ox), (0, .ref b)] 0 (nI (i + 6)) dL_law_1171 rfl (iinc6 i) (by decide) rfl ?_
  refine j_goto 1174 cx 18 dL_law_1174 (by decide) ?_
  have hk := kp_set (xs (i + 1)) (xs (i + 2)) (xs (i + 3)) S
  have h9 := ih (sp_set (xs (i + 1)) (xs (i + 2)) (xs (i + 3)) S).2 τ κ ω tk st be nu la mk mb ma mv bd (is_set (xs (i + 1)) (xs (i + 2)) (xs (i + 3)) hS) (fun q => by rw [hk.2.1] at q; rw [hk.1]; exact hκ q)
  rw [hk.1, hk.2.1, hk.2.2.1, hk.2.2.2.1, hk.2.2.2.2.1, hk.2.2.2.2.2.1, hk.2.2.2.2.2.2] at h9
  exact h9
