set_option maxRecDepth 100000 in
set_option maxHeartbeats 4000000 in
theorem lc_nursery {G : pG} {K : pK} (cx : CX G K cL_law RL wsL_law 4 room_1) {b L : Nat} {xs : Nat → Int32} (hX : va_X b L xs (ks K) (ks K).heap) (hbl : b < (ks K).heap.size) (hbA : ¬ kA K b) (hL : L ≤ 3072) (ox om : Nat) (ax am qh qt qk sh nh : Nat → Nat) (i : Nat) (hi : i + 6 ≤ L) (ih : ∀ (S : St) (τ κ ω : Nu) (tk st be nu la mk mb ma mv : Int32) (bd : Bool), InS S → (sP S = true → κ = sK S) → JJ G K 44 953 (WG G ox om ax am qh qt qk sh nh (sP S) (sN S) τ (sK S) (nI (sL S)) (sT S) tk st be nu (sB S) (sZ S) (sC S) (sF S) (sP S) la (nI (sL S)) mk mb ma mv bd (sN S) κ ω (sF S) (sT S) (sB S) (sZ S) (sC S)) [(3, .int (nI (i + 6))), (2, .ref om), (1, .ref ox), (0, .ref b)] 18 []) (S : St) (τ κ ω : Nu) (tk st be nu la mk mb ma mv : Int32) (bd : Bool) (hS : InS S) (hκ : sP S = true → κ = sK S) : JJ G K 44 953 (WG G ox om ax am qh qt qk sh nh (sP S) (sN S) τ (sK S) (nI (sL S)) (sT S) tk st be nu (sB S) (sZ S) (sC S) (sF S) (sP S) la (nI (sL S)) mk mb ma mv bd (sN S) κ ω (sF S) (sT S) (sB S) (sZ S) (sC S)) [(3, .int (nI (i))), (2, .ref om), (1, .ref ox), (0, .ref b)] 814 [] := by
  refine j_aload_n 814 cx 2 dL_law_814 rfl ?_
  refine j_callV_i 815 cx 0 [0, 1, 2, 3, 4, 5, 6, 7, 8, 9, 10, 11, 12, 13, 14, 24, 22, 23] [] (fun zu1 => WG G ox om ax am qh qt qk sh nh (sP S) (sN (sp_nursery S).2) (zu1.2.2.2.2) (sK S) (nI (sL (sp_nursery S).2)) (sT ((sp_nursery S).2)) (zu1.1) (zu1.2.1) (zu1.2.2.1) (zu1.2.2.2.1) (sB S) (sZ S) (sC S) (sF S) (sP S) la (nI (sL S)) mk mb ma mv bd (sN S) κ ω (sF S) (sT S) (sB S) (sZ S) (sC S)) (c_X5_nursery (kl K) G ox ax qh qt S τ tk st be nu hS.1.1 hS.2.2.1 hS.2.2.2.1) gL_law_X5_nursery rfl rfl rfl ⟨rfl, by decide, by decide, rfl⟩ ⟨Nat.le_of_ble_eq_true rfl, Nat.le_of_ble_eq_true rfl⟩ ⟨Nat.le_of_ble_eq_true rfl, Nat.le_of_ble_eq_true rfl⟩ rfl (by decide) (ci := 4) 0 rfl rfl rfl rfl rfl (Nat.le_of_ble_eq_true rfl) dL_law_815 (fun zu1 => by simp only [WG, rep, List.cons_append, List.nil_append, List.set_cons_zero, List.set_cons_succ] <;> rfl) (fun zu1 zk9 => ?_)
  refine j_top ((sp_nursery S).1) rfl ?_
  refine j_aload_n 818 cx 1 dL_law_818 rfl ?_
  refine j_callV_i 819 cx 0 [35, 40, 36, 38] [] (fun zu2 => WG G ox om ax am qh qt qk sh nh (sP S) (sN (sp_nursery S).2) (zu1.2.2.2.2) (sK S) (nI (sL (sp_nursery S).2)) (sT ((sp_nursery S).2)) (zu1.1) (zu1.2.1) (zu1.2.2.1) (zu1.2.2.2.1) (sB S) (sZ S) (sC S) (sF S) (sP S) la (nI (sL (sp_nursery S).2)) (zu2.1) (zu2.2.1) (zu2.2.2.1) (zu2.2.2.2.1) (zu2.2.2.2.2) (sN (sp_nursery S).2) κ (sN S) (sF S) (sT (sp_nursery S).2) (sB S) (sZ S) (sC S)) (c_X6_nursery (kl K) G om am S la mk mb ma mv bd ω hS.1.1 hS.2.2.1 hS.2.2.2.1) gL_law_X6_nursery rfl rfl rfl ⟨rfl, by decide, by decide, rfl⟩ ⟨Nat.le_of_ble_eq_true rfl, Nat.le_of_ble_eq_true rfl⟩ ⟨Nat.le_of_ble_eq_true rfl, Nat.le_of_ble_eq_true rfl⟩ rfl (by decide) (ci := 5) 0 rfl rfl rfl rfl rfl (Nat.le_of_ble_eq_true rfl) dL_law_819 (fun zu2 => by simp only [WG, rep, List.cons_append, List.nil_append, List.set_cons_zero, List.set_cons_succ] <;> rfl) (fun zu2 zk9 => ?_)
  refine j_top ((sp_nursery S).1) rfl ?_
  refine j_icmp_eq_T 822 cx 1171 dL_law_822 (by decide) rfl ?_
  refine j_iinc 1171 cx [(3, .int (nI (i + 6))), (2, .ref om), (1, .ref ox), (0, .ref b)] 0 (nI (i + 6)) dL_law_1171 rfl (iinc6 i) (by decide) rfl ?_
  refine j_goto 1174 cx 18 dL_law_1174 (by decide) ?_
  have hk := kp_nursery S
  have h9 := ih (sp_nursery S).2 (zu1.2.2.2.2) κ (sN S) (zu1.1) (zu1.2.1) (zu1.2.2.1) (zu1.2.2.2.1) la (zu2.1) (zu2.2.1) (zu2.2.2.1) (zu2.2.2.2.1) (zu2.2.2.2.2) (is_nursery hS) (fun q => by rw [hk.2.1] at q; rw [hk.1]; exact hκ q)
  rw [hk.1, hk.2.1, hk.2.2.1, hk.2.2.2.1, hk.2.2.2.2.1, hk.2.2.2.2.2] at h9
  exact h9
set_option maxRecDepth 100000 in
set_option maxHeartbeats 4000000 in
theorem lc_sheet {G : pG} {K : pK} (cx : CX G K cL_law RL wsL_law 4 room_1) {b L : Nat} {xs : Nat → Int32} (hX : va_X b L xs (ks K) (ks K).heap) (hbl : b < (ks K).heap.size) (hbA : ¬ kA K b) (hL : L ≤ 3072) (ox om : Nat) (ax am qh qt qk sh nh : Nat → Nat) (i : Nat) (hi : i + 6 ≤ L) (ih : ∀ (S : St) (τ κ ω : Nu) (tk st be nu la mk mb ma mv : Int32) (bd : Bool), InS S → (sP S = true → κ = sK S) → JJ G K 44 953 (WG G ox om ax am qh qt qk sh nh (sP S) (sN S) τ (sK S) (nI (sL S)) (sT S) tk st be nu (sB S) (sZ S) (sC S) (sF S) (sP S) la (nI (sL S)) mk mb ma mv bd (sN S) κ ω (sF S) (sT S) (sB S) (sZ S) (sC S)) [(3, .int (nI (i + 6))), (2, .ref om), (1, .ref ox), (0, .ref b)] 18 []) (S : St) (τ κ ω : Nu) (tk st be nu la mk mb ma mv : Int32) (bd : Bool) (hS : InS S) (hκ : sP S = true → κ = sK S) : JJ G K 44 953 (WG G ox om ax am qh qt qk sh nh (sP S) (sN S) τ (sK S) (nI (sL S)) (sT S) tk st be nu (sB S) (sZ S) (sC S) (sF S) (sP S) la (nI (sL S)) mk mb ma mv bd (sN S) κ ω (sF S) (sT S) (sB S) (sZ S) (sC S)) [(3, .int (nI (i))), (2, .ref om), (1, .ref ox), (0, .ref b)] 827 [] := by
  refine j_aload_n 827 cx 2 dL_law_827 rfl ?_
  refine j_aload_n 828 cx 3 dL_law_828 rfl ?_
  refine j_iload_n 829 cx 0 dL_law_829 rfl ?_
  refine j_iconst 830 cx 1 dL_law_830 (by decide) ?_
  refine j_iadd 831 cx dL_law_831 ?_
  refine j_top (nI (i + 1)) (nI_add i 1) ?_
  refine j_sld 832 cx hX hbl hbA (i + 1) rfl (by omega) (by omega) dL_law_832 ?_
  refine j_aload_n 833 cx 3 dL_law_833 rfl ?_
  refine j_iload_n 834 cx 0 dL_law_834 rfl ?_
  refine j_iconst 835 cx 2 dL_law_835 (by decide) ?_
  refine j_iadd 836 cx dL_law_836 ?_
  refine j_top (nI (i + 2)) (nI_add i 2) ?_
  refine j_sld 837 cx hX hbl hbA (i + 2) rfl (by omega) (by omega) dL_law_837 ?_
  refine j_aload_n 838 cx 3 dL_law_838 rfl ?_
  refine j_iload_n 839 cx 0 dL_law_839 rfl ?_
  refine j_iconst 840 cx 3 dL_law_840 (by decide) ?_
  refine j_iadd 841 cx dL_law_841 ?_
  refine j_top (nI (i + 3)) (nI_add i 3) ?_
  refine j_sld 842 cx hX hbl hbA (i + 3) rfl (by omega) (by omega) dL_law_842 ?_
  refine j_callV_i 843 cx 3 [0, 34, 25, 1, 2, 3, 4, 5, 6, 7, 8, 9, 10, 11, 12, 13, 14, 26, 27, 28, 29, 30, 31, 32, 33] [.int (xs (i + 1)), .int (xs (i + 2)), .int (xs (i + 3))] (fun zu1 => WG G ox om ax am qh qt qk sh nh (sP S) (sN (sp_sheet (xs (i + 1)) (xs (i + 2)) (xs (i + 3)) S).2) zu1 (sK S) (nI (sL S)) (sT S) tk st be nu (sB ((sp_sheet (xs (i + 1)) (xs (i + 2)) (xs (i + 3)) S).2)) (sZ ((sp_sheet (xs (i + 1)) (xs (i + 2)) (xs (i + 3)) S).2)) (sC ((sp_sheet (xs (i + 1)) (xs (i + 2)) (xs (i + 3)) S).2)) (sF (sp_sheet (xs (i + 1)) (xs (i + 2)) (xs (i + 3)) S).2) (sP S) la (nI (sL S)) mk mb ma mv bd (sN S) κ ω (sF S) (sT S) (sB S) (sZ S) (sC S)) (a_X5_sheet (kl K) G ox ax qh qt sh nh S τ hS (xs (i + 1)) (xs (i + 2)) (xs (i + 3))) gL_law_X5_sheet rfl rfl rfl ⟨rfl, by decide, by decide, rfl⟩ ⟨Nat.le_of_ble_eq_true rfl, Nat.le_of_ble_eq_true rfl⟩ ⟨Nat.le_of_ble_eq_true rfl, Nat.le_of_ble_eq_true rfl⟩ rfl (by decide) (ci := 4) 0 rfl rfl rfl rfl rfl (Nat.le_of_ble_eq_true rfl) dL_law_843 (fun zu1 => by simp only [WG, rep, List.cons_append, List.nil_append, List.set_cons_zero, List.set_cons_succ] <;> rfl) (fun zu1 zk9 => ?_)
  refine j_top ((sp_sheet (xs (i + 1)) (xs (i + 2)) (xs (i + 3)) S).1) rfl ?_
  refine j_aload_n 846 cx 1 dL_law_846 rfl ?_
  refine j_aload_n 847 cx 3 dL_law_847 rfl ?_
  refine j_iload_n 848 cx 0 dL_law_848 rfl ?_
  refine j_iconst 849 cx 1 dL_law_849 (by decide) ?_
  refine j_iadd 850 cx dL_law_850 ?_
  refine j_top (nI (i + 1)) (nI_add i 1) ?_
  refine j_sld 851 cx hX hbl hbA (i + 1) rfl (by omega) (by omega) dL_law_851 ?_
  refine j_aload_n 852 cx 3 dL_law_852 rfl ?_
  refine j_iload_n 853 cx 0 dL_law_853 rfl ?_
  refine j_iconst 854 cx 2 dL_law_854 (by decide) ?_
  refine j_iadd 855 cx dL_law_855 ?_
  refine j_top (nI (i + 2)) (nI_add i 2) ?_
  refine j_sld 856 cx hX hbl hbA (i + 2) rfl (by omega) (by omega) dL_law_856 ?_
  refine j_aload_n 857 cx 3 dL_law_857 rfl ?_
  refine j_iload_n 858 cx 0 dL_law_858 rfl ?_
  refine j_iconst 859 cx 3 dL_law_859 (by decide) ?_
  refine j_iadd 860 cx dL_law_860 ?_
  refine j_top (nI (i + 3)) (nI_add i 3) ?_
  refine j_sld 861 cx hX hbl hbA (i + 3) rfl (by omega) (by omega) dL_law_861 ?_
  refine j_callV_i 862 cx 3 [35, 39, 41, 42, 43] [.int (xs (i + 1)), .int (xs (i + 2)), .int (xs (i + 3))] (fun zu2 => WG G ox om ax am qh qt qk sh nh (sP S) (sN (sp_sheet (xs (i + 1)) (xs (i + 2)) (xs (i + 3)) S).2) zu1 (sK S) (nI (sL S)) (sT S) tk st be nu (sB ((sp_sheet (xs (i + 1)) (xs (i + 2)) (xs (i + 3)) S).2)) (sZ ((sp_sheet (xs (i + 1)) (xs (i + 2)) (xs (i + 3)) S).2)) (sC ((sp_sheet (xs (i + 1)) (xs (i + 2)) (xs (i + 3)) S).2)) (sF (sp_sheet (xs (i + 1)) (xs (i + 2)) (xs (i + 3)) S).2) (sP S) la (nI (sL S)) mk mb ma mv bd (sN S) κ ω (sF (sp_sheet (xs (i + 1)) (xs (i + 2)) (xs (i + 3)) S).2) (sT S) (sB (sp_sheet (xs (i + 1)) (xs (i + 2)) (xs (i + 3)) S).2) (sZ (sp_sheet (xs (i + 1)) (xs (i + 2)) (xs (i + 3)) S).2) (sC (sp_sheet (xs (i + 1)) (xs (i + 2)) (xs (i + 3)) S).2)) (a_X6_sheet (kl K) G om am S la mk mb ma mv bd hS (xs (i + 1)) (xs (i + 2)) (xs (i + 3))) gL_law_X6_sheet rfl rfl rfl ⟨rfl, by decide, by decide, rfl⟩ ⟨Nat.le_of_ble_eq_true rfl, Nat.le_of_ble_eq_true rfl⟩ ⟨Nat.le_of_ble_eq_true rfl, Nat.le_of_ble_eq_true rfl⟩ rfl (by decide) (ci := 5) 0 rfl rfl rfl rfl rfl (Nat.le_of_ble_eq_true rfl) dL_law_862 (fun zu2 => by simp only [WG, rep, List.cons_append, List.nil_append, List.set_cons_zero, List.set_cons_succ] <;> rfl) (fun zu2 zk9 => ?_)
  refine j_top ((sp_sheet (xs (i + 1)) (xs (i + 2)) (xs (i + 3)) S).1) rfl ?_
  refine j_icmp_eq_T 865 cx 1171 dL_law_865 (by decide) rfl ?_
  refine j_iinc 1171 cx [(3, .int (nI (i + 6))), (2, .ref om), (1, .ref ox), (0, .ref b)] 0 (nI (i + 6)) dL_law_1171 rfl (iinc6 i) (by decide) rfl ?_
  refine j_goto 1174 cx 18 dL_law_1174 (by decide) ?_
  have hc := shC_sheet (xs (i + 1)) (xs (i + 2)) (xs (i + 3)) S
  have hk := kp_sh hc
  have h9 := ih (sp_sheet (xs (i + 1)) (xs (i + 2)) (xs (i + 3)) S).2 zu1 κ ω tk st be nu la mk mb ma mv bd (is_sheet (xs (i + 1)) (xs (i + 2)) (xs (i + 3)) hS) (fun q => by rw [hk.2.1] at q; rw [hk.1]; exact hκ q)
  rw [hk.1, hk.2.1, hk.2.2.1, hk.2.2.2, kn_sh hc] at h9
  rw [kn_sh hc]
  exact h9
set_option maxRecDepth 100000 in
set_option maxHeartbeats 4000000 in
theorem lc_write {G : pG} {K : pK} (cx : CX G K cL_law RL wsL_law 4 room_1) {b L : Nat} {xs : Nat → Int32} (hX : va_X b L xs (ks K) (ks K).heap) (hbl : b < (ks K).heap.size) (hbA : ¬ kA K b) (hL : L ≤ 3072) (ox om : Nat) (ax am qh qt qk sh nh : Nat → Nat) (i : Nat) (hi : i + 6 ≤ L) (ih : ∀ (S : St) (τ κ ω : Nu) (tk st be nu la mk mb ma mv : Int32) (bd : Bool), InS S → (sP S = true → κ = sK S) → JJ G K 44 953 (WG G ox om ax am qh qt qk sh nh (sP S) (sN S) τ (sK S) (nI (sL S)) (sT S) tk st be nu (sB S) (sZ S) (sC S) (sF S) (sP S) la (nI (sL S)) mk mb ma mv bd (sN S) κ ω (sF S) (sT S) (sB S) (sZ S) (sC S)) [(3, .int (nI (i + 6))), (2, .ref om), (1, .ref ox), (0, .ref b)] 18 []) (S : St) (τ κ ω : Nu) (tk st be nu la mk mb ma mv : Int32) (bd : Bool) (hS : InS S) (hκ : sP S = true → κ = sK S) : JJ G K 44 953 (WG G ox om ax am qh qt qk sh nh (sP S) (sN S) τ (sK S) (nI (sL S)) (sT S) tk st be nu (sB S) (sZ S) (sC S) (sF S) (sP S) la (nI (sL S)) mk mb ma mv bd (sN S) κ ω (sF S) (sT S) (sB S) (sZ S) (sC S)) [(3, .int (nI (i))), (2, .ref om), (1, .ref ox), (0, .ref b)] 870 [] := by
  refine j_aload_n 870 cx 2 dL_law_870 rfl ?_
  refine j_aload_n 871 cx 3 dL_law_871 rfl ?_
  refine j_iload_n 872 cx 0 dL_law_872 rfl ?_
  refine j_iconst 873 cx 1 dL_law_873 (by decide) ?_
  refine j_iadd 874 cx dL_law_874 ?_
  refine j_top (nI (i + 1)) (nI_add i 1) ?_
  refine j_sld 875 cx hX hbl hbA (i + 1) rfl (by omega) (by omega) dL_law_875 ?_
  refine j_aload_n 876 cx 3 dL_law_876 rfl ?_
  refine j_iload_n 877 cx 0 dL_law_877 rfl ?_
  refine j_iconst 878 cx 2 dL_law_878 (by decide) ?_
  refine j_iadd 879 cx dL_law_879 ?_
  refine j_top (nI (i + 2)) (nI_add i 2) ?_
  refine j_sld 880 cx hX hbl hbA (i + 2) rfl (by omega) (by omega) dL_law_880 ?_
  refine j_aload_n 881 cx 3 dL_law_881 rfl ?_
  refine j_iload_n 882 cx 0 dL_law_882 rfl ?_
  refine j_iconst 883 cx 3 dL_law_883 (by decide) ?_
  refine j_iadd 884 cx dL_law_884 ?_
  refine j_top (nI (i + 3)) (nI_add i 3) ?_
  refine j_sld 885 cx hX hbl hbA (i + 3) rfl (by omega) (by omega) dL_law_885 ?_
  refine j_i2l 886 cx dL_law_886 ?_
  refine j_bipush 887 cx 32 dL_law_887 (by decide) ?_
  refine j_lshl 889 cx dL_law_889 ?_
  refine j_aload_n 890 cx 3 dL_law_890 rfl ?_
  refine j_iload_n 891 cx 0 dL_law_891 rfl ?_
  refine j_iconst 892 cx 4 dL_law_892 (by decide) ?_
  refine j_iadd 893 cx dL_law_893 ?_
  refine j_top (nI (i + 4)) (nI_add i 4) ?_
  refine j_sld 894 cx hX hbl hbA (i + 4) rfl (by omega) (by omega) dL_law_894 ?_
  refine j_i2l 895 cx dL_law_895 ?_
  refine j_ldc2 896 cx (v := 4294967295) (List.mem_of_getElem? (i := 6) rfl) dL_law_896 ?_
  refine j_land 899 cx dL_law_899 ?_
  refine j_lor 900 cx dL_law_900 ?_
  refine j_callV_l 901 cx 3 [0, 34, 25, 1, 2, 3, 4, 5, 6, 7, 8, 9, 10, 11, 12, 13, 14, 26, 27, 28, 29, 30, 31, 32, 33] [.int (xs (i + 1)), .int (xs (i + 2)), .long ((((xs (i + 3)).toInt64) <<< ((32 : Int32).toInt64 &&& 63)) ||| (((xs (i + 4)).toInt64) &&& (4294967295 : Int64)))] (fun zu1 => WG G ox om ax am qh qt qk sh nh (sP S) (sN (sp_write (xs (i + 1)) (xs (i + 2)) ((((xs (i + 3)).toInt64) <<< ((32 : Int32).toInt64 &&& 63)) ||| (((xs (i + 4)).toInt64) &&& (4294967295 : Int64))) S).2) zu1 (sK S) (nI (sL S)) (sT S) tk st be nu (sB ((sp_write (xs (i + 1)) (xs (i + 2)) ((((xs (i + 3)).toInt64) <<< ((32 : Int32).toInt64 &&& 63)) ||| (((xs (i + 4)).toInt64) &&& (4294967295 : Int64))) S).2)) (sZ ((sp_write (xs (i + 1)) (xs (i + 2)) ((((xs (i + 3)).toInt64) <<< ((32 : Int32).toInt64 &&& 63)) ||| (((xs (i + 4)).toInt64) &&& (4294967295 : Int64))) S).2)) (sC ((sp_write (xs (i + 1)) (xs (i + 2)) ((((xs (i + 3)).toInt64) <<< ((32 : Int32).toInt64 &&& 63)) ||| (((xs (i + 4)).toInt64) &&& (4294967295 : Int64))) S).2)) (sF (sp_write (xs (i + 1)) (xs (i + 2)) ((((xs (i + 3)).toInt64) <<< ((32 : Int32).toInt64 &&& 63)) ||| (((xs (i + 4)).toInt64) &&& (4294967295 : Int64))) S).2) (sP S) la (nI (sL S)) mk mb ma mv bd (sN S) κ ω (sF S) (sT S) (sB S) (sZ S) (sC S)) (a_X5_write (kl K) G ox ax qh qt sh nh S τ hS (xs (i + 1)) (xs (i + 2)) ((((xs (i + 3)).toInt64) <<< ((32 : Int32).toInt64 &&& 63)) ||| (((xs (i + 4)).toInt64) &&& (4294967295 : Int64)))) gL_law_X5_write rfl rfl rfl ⟨rfl, by decide, by decide, rfl⟩ ⟨Nat.le_of_ble_eq_true rfl, Nat.le_of_ble_eq_true rfl⟩ ⟨Nat.le_of_ble_eq_true rfl, Nat.le_of_ble_eq_true rfl⟩ rfl (by decide) (ci := 4) 0 rfl rfl rfl rfl rfl (Nat.le_of_ble_eq_true rfl) dL_law_901 (fun zu1 => by simp only [WG, rep, List.cons_append, List.nil_append, List.set_cons_zero, List.set_cons_succ] <;> rfl) (fun zu1 zk9 => ?_)
  refine j_topl ((sp_write (xs (i + 1)) (xs (i + 2)) ((((xs (i + 3)).toInt64) <<< ((32 : Int32).toInt64 &&& 63)) ||| (((xs (i + 4)).toInt64) &&& (4294967295 : Int64))) S).1) rfl ?_
  refine j_aload_n 904 cx 1 dL_law_904 rfl ?_
  refine j_aload_n 905 cx 3 dL_law_905 rfl ?_
  refine j_iload_n 906 cx 0 dL_law_906 rfl ?_
  refine j_iconst 907 cx 1 dL_law_907 (by decide) ?_
  refine j_iadd 908 cx dL_law_908 ?_
  refine j_top (nI (i + 1)) (nI_add i 1) ?_
  refine j_sld 909 cx hX hbl hbA (i + 1) rfl (by omega) (by omega) dL_law_909 ?_
  refine j_aload_n 910 cx 3 dL_law_910 rfl ?_
  refine j_iload_n 911 cx 0 dL_law_911 rfl ?_
  refine j_iconst 912 cx 2 dL_law_912 (by decide) ?_
  refine j_iadd 913 cx dL_law_913 ?_
  refine j_top (nI (i + 2)) (nI_add i 2) ?_
  refine j_sld 914 cx hX hbl hbA (i + 2) rfl (by omega) (by omega) dL_law_914 ?_
  refine j_aload_n 915 cx 3 dL_law_915 rfl ?_
  refine j_iload_n 916 cx 0 dL_law_916 rfl ?_
  refine j_iconst 917 cx 3 dL_law_917 (by decide) ?_
  refine j_iadd 918 cx dL_law_918 ?_
  refine j_top (nI (i + 3)) (nI_add i 3) ?_
  refine j_sld 919 cx hX hbl hbA (i + 3) rfl (by omega) (by omega) dL_law_919 ?_
  refine j_i2l 920 cx dL_law_920 ?_
  refine j_bipush 921 cx 32 dL_law_921 (by decide) ?_
  refine j_lshl 923 cx dL_law_923 ?_
  refine j_aload_n 924 cx 3 dL_law_924 rfl ?_
  refine j_iload_n 925 cx 0 dL_law_925 rfl ?_
  refine j_iconst 926 cx 4 dL_law_926 (by decide) ?_
  refine j_iadd 927 cx dL_law_927 ?_
  refine j_top (nI (i + 4)) (nI_add i 4) ?_
  refine j_sld 928 cx hX hbl hbA (i + 4) rfl (by omega) (by omega) dL_law_928 ?_
  refine j_i2l 929 cx dL_law_929 ?_
  refine j_ldc2 930 cx (v := 4294967295) (List.mem_of_getElem? (i := 6) rfl) dL_law_930 ?_
  refine j_land 933 cx dL_law_933 ?_
  refine j_lor 934 cx dL_law_934 ?_
  refine j_callV_l 935 cx 3 [35, 39, 41, 42, 43] [.int (xs (i + 1)), .int (xs (i + 2)), .long ((((xs (i + 3)).toInt64) <<< ((32 : Int32).toInt64 &&& 63)) ||| (((xs (i + 4)).toInt64) &&& (4294967295 : Int64)))] (fun zu2 => WG G ox om ax am qh qt qk sh nh (sP S) (sN (sp_write (xs (i + 1)) (xs (i + 2)) ((((xs (i + 3)).toInt64) <<< ((32 : Int32).toInt64 &&& 63)) ||| (((xs (i + 4)).toInt64) &&& (4294967295 : Int64))) S).2) zu1 (sK S) (nI (sL S)) (sT S) tk st be nu (sB ((sp_write (xs (i + 1)) (xs (i + 2)) ((((xs (i + 3)).toInt64) <<< ((32 : Int32).toInt64 &&& 63)) ||| (((xs (i + 4)).toInt64) &&& (4294967295 : Int64))) S).2)) (sZ ((sp_write (xs (i + 1)) (xs (i + 2)) ((((xs (i + 3)).toInt64) <<< ((32 : Int32).toInt64 &&& 63)) ||| (((xs (i + 4)).toInt64) &&& (4294967295 : Int64))) S).2)) (sC ((sp_write (xs (i + 1)) (xs (i + 2)) ((((xs (i + 3)).toInt64) <<< ((32 : Int32).toInt64 &&& 63)) ||| (((xs (i + 4)).toInt64) &&& (4294967295 : Int64))) S).2)) (sF (sp_write (xs (i + 1)) (xs (i + 2)) ((((xs (i + 3)).toInt64) <<< ((32 : Int32).toInt64 &&& 63)) ||| (((xs (i + 4)).toInt64) &&& (4294967295 : Int64))) S).2) (sP S) la (nI (sL S)) mk mb ma mv bd (sN S) κ ω (sF (sp_write (xs (i + 1)) (xs (i + 2)) ((((xs (i + 3)).toInt64) <<< ((32 : Int32).toInt64 &&& 63)) ||| (((xs (i + 4)).toInt64) &&& (4294967295 : Int64))) S).2) (sT S) (sB (sp_write (xs (i + 1)) (xs (i + 2)) ((((xs (i + 3)).toInt64) <<< ((32 : Int32).toInt64 &&& 63)) ||| (((xs (i + 4)).toInt64) &&& (4294967295 : Int64))) S).2) (sZ (sp_write (xs (i + 1)) (xs (i + 2)) ((((xs (i + 3)).toInt64) <<< ((32 : Int32).toInt64 &&& 63)) ||| (((xs (i + 4)).toInt64) &&& (4294967295 : Int64))) S).2) (sC (sp_write (xs (i + 1)) (xs (i + 2)) ((((xs (i + 3)).toInt64) <<< ((32 : Int32).toInt64 &&& 63)) ||| (((xs (i + 4)).toInt64) &&& (4294967295 : Int64))) S).2)) (a_X6_write (kl K) G om am S la mk mb ma mv bd hS (xs (i + 1)) (xs (i + 2)) ((((xs (i + 3)).toInt64) <<< ((32 : Int32).toInt64 &&& 63)) ||| (((xs (i + 4)).toInt64) &&& (4294967295 : Int64)))) gL_law_X6_write rfl rfl rfl ⟨rfl, by decide, by decide, rfl⟩ ⟨Nat.le_of_ble_eq_true rfl, Nat.le_of_ble_eq_true rfl⟩ ⟨Nat.le_of_ble_eq_true rfl, Nat.le_of_ble_eq_true rfl⟩ rfl (by decide) (ci := 5) 0 rfl rfl rfl rfl rfl (Nat.le_of_ble_eq_true rfl) dL_law_935 (fun zu2 => by simp only [WG, rep, List.cons_append, List.nil_append, List.set_cons_zero, List.set_cons_succ] <;> rfl) (fun zu2 zk9 => ?_)
  refine j_topl ((sp_write (xs (i + 1)) (xs (i + 2)) ((((xs (i + 3)).toInt64) <<< ((32 : Int32).toInt64 &&& 63)) ||| (((xs (i + 4)).toInt64) &&& (4294967295 : Int64))) S).1) rfl ?_
  refine j_lcmp 938 cx dL_law_938 ?_
  refine j_top 0 ((lg_cmp_eq _ _).mpr rfl) ?_
  refine j_if_eq_T 939 cx 1171 dL_law_939 (by decide) (by decide) ?_
  refine j_iinc 1171 cx [(3, .int (nI (i + 6))), (2, .ref om), (1, .ref ox), (0, .ref b)] 0 (nI (i + 6)) dL_law_1171 rfl (iinc6 i) (by decide) rfl ?_
  refine j_goto 1174 cx 18 dL_law_1174 (by decide) ?_
  have hc := shC_write (xs (i + 1)) (xs (i + 2)) ((((xs (i + 3)).toInt64) <<< ((32 : Int32).toInt64 &&& 63)) ||| (((xs (i + 4)).toInt64) &&& (4294967295 : Int64))) S
  have hk := kp_sh hc
  have h9 := ih (sp_write (xs (i + 1)) (xs (i + 2)) ((((xs (i + 3)).toInt64) <<< ((32 : Int32).toInt64 &&& 63)) ||| (((xs (i + 4)).toInt64) &&& (4294967295 : Int64))) S).2 zu1 κ ω tk st be nu la mk mb ma mv bd (is_write (xs (i + 1)) (xs (i + 2)) ((((xs (i + 3)).toInt64) <<< ((32 : Int32).toInt64 &&& 63)) ||| (((xs (i + 4)).toInt64) &&& (4294967295 : Int64))) hS) (fun q => by rw [hk.2.1] at q; rw [hk.1]; exact hκ q)
  rw [hk.1, hk.2.1, hk.2.2.1, hk.2.2.2, kn_sh hc] at h9
  rw [kn_sh hc]
  exact h9
set_option maxRecDepth 100000 in
set_option maxHeartbeats 4000000 in
theorem lc_copy {G : pG} {K : pK} (cx : CX G K cL_law RL wsL_law 4 room_1) {b L : Nat} {xs : Nat → Int32} (hX : va_X b L xs (ks K) (ks K).heap) (hbl : b < (ks K).heap.size) (hbA : ¬ kA K b) (hL : L ≤ 3072) (ox om : Nat) (ax am qh qt qk sh nh : Nat → Nat) (i : Nat) (hi : i + 6 ≤ L) (ih : ∀ (S : St) (τ κ ω : Nu) (tk st be nu la mk mb ma mv : Int32) (bd : Bool), InS S → (sP S = true → κ = sK S) → JJ G K 44 953 (WG G ox om ax am qh qt qk sh nh (sP S) (sN S) τ (sK S) (nI (sL S)) (sT S) tk st be nu (sB S) (sZ S) (sC S) (sF S) (sP S) la (nI (sL S)) mk mb ma mv bd (sN S) κ ω (sF S) (sT S) (sB S) (sZ S) (sC S)) [(3, .int (nI (i + 6))), (2, .ref om), (1, .ref ox), (0, .ref b)] 18 []) (S : St) (τ κ ω : Nu) (tk st be nu la mk mb ma mv : Int32) (bd : Bool) (hS : InS S) (hκ : sP S = true → κ = sK S) : JJ G K 44 953 (WG G ox om ax am qh qt qk sh nh (sP S) (sN S) τ (sK S) (nI (sL S)) (sT S) tk st be nu (sB S) (sZ S) (sC S) (sF S) (sP S) la (nI (sL S)) mk mb ma mv bd (sN S) κ ω (sF S) (sT S) (sB S) (sZ S) (sC S)) [(3, .int (nI (i))), (2, .ref om), (1, .ref ox), (0, .ref b)] 944 [] := by
  refine j_aload_n 944 cx 2 dL_law_944 rfl ?_
  refine j_aload_n 945 cx 3 dL_law_945 rfl ?_
  refine j_iload_n 946 cx 0 dL_law_946 rfl ?_
  refine j_iconst 947 cx 1 dL_law_947 (by decide) ?_
  refine j_iadd 948 cx dL_law_948 ?_
  refine j_top (nI (i + 1)) (nI_add i 1) ?_
  refine j_sld 949 cx hX hbl hbA (i + 1) rfl (by omega) (by omega) dL_law_949 ?_
  refine j_aload_n 950 cx 3 dL_law_950 rfl ?_
  refine j_iload_n 951 cx 0 dL_law_951 rfl ?_
  refine j_iconst 952 cx 2 dL_law_952 (by decide) ?_
  refine j_iadd 953 cx dL_law_953 ?_
  refine j_top (nI (i + 2)) (nI_add i 2) ?_
  refine j_sld 954 cx hX hbl hbA (i + 2) rfl (by omega) (by omega) dL_law_954 ?_
  refine j_aload_n 955 cx 3 dL_law_955 rfl ?_
  refine j_iload_n 956 cx 0 dL_law_956 rfl ?_
  refine j_iconst 957 cx 3 dL_law_957 (by decide) ?_
  refine j_iadd 958 cx dL_law_958 ?_
  refine j_top (nI (i + 3)) (nI_add i 3) ?_
  refine j_sld 959 cx hX hbl hbA (i + 3) rfl (by omega) (by omega) dL_law_959 ?_
  refine j_aload_n 960 cx 3 dL_law_960 rfl ?_
  refine j_iload_n 961 cx 0 dL_law_961 rfl ?_
  refine j_iconst 962 cx 4 dL_law_962 (by decide) ?_
  refine j_iadd 963 cx dL_law_963 ?_
  refine j_top (nI (i + 4)) (nI_add i 4) ?_
  refine j_sld 964 cx hX hbl hbA (i + 4) rfl (by omega) (by omega) dL_law_964 ?_
  refine j_aload_n 965 cx 3 dL_law_965 rfl ?_
  refine j_iload_n 966 cx 0 dL_law_966 rfl ?_
  refine j_iconst 967 cx 5 dL_law_967 (by decide) ?_
  refine j_iadd 968 cx dL_law_968 ?_
  refine j_top (nI (i + 5)) (nI_add i 5) ?_
  refine j_sld 969 cx hX hbl hbA (i + 5) rfl (by omega) (by omega) dL_law_969 ?_
  refine j_callV_i 970 cx 5 [0, 34, 25, 1, 2, 3, 4, 5, 6, 7, 8, 9, 10, 11, 12, 13, 14, 26, 27, 28, 29, 30, 31, 32, 33] [.int (xs (i + 1)), .int (xs (i + 2)), .int (xs (i + 3)), .int (xs (i + 4)), .int (xs (i + 5))] (fun zu1 => WG G ox om ax am qh qt qk sh nh (sP S) (sN (sp_copy (xs (i + 1)) (xs (i + 2)) (xs (i + 3)) (xs (i + 4)) (xs (i + 5)) S).2) zu1 (sK S) (nI (sL S)) (sT S) tk st be nu (sB ((sp_copy (xs (i + 1)) (xs (i + 2)) (xs (i + 3)) (xs (i + 4)) (xs (i + 5)) S).2)) (sZ ((sp_copy (xs (i + 1)) (xs (i + 2)) (xs (i + 3)) (xs (i + 4)) (xs (i + 5)) S).2)) (sC ((sp_copy (xs (i + 1)) (xs (i + 2)) (xs (i + 3)) (xs (i + 4)) (xs (i + 5)) S).2)) (sF (sp_copy (xs (i + 1)) (xs (i + 2)) (xs (i + 3)) (xs (i + 4)) (xs (i + 5)) S).2) (sP S) la (nI (sL S)) mk mb ma mv bd (sN S) κ ω (sF S) (sT S) (sB S) (sZ S) (sC S)) (a_X5_copy (kl K) G ox ax qh qt sh nh S τ hS (xs (i + 1)) (xs (i + 2)) (xs (i + 3)) (xs (i + 4)) (xs (i + 5))) gL_law_X5_copy rfl rfl rfl ⟨rfl, by decide, by decide, rfl⟩ ⟨Nat.le_of_ble_eq_true rfl, Nat.le_of_ble_eq_true rfl⟩ ⟨Nat.le_of_ble_eq_true rfl, Nat.le_of_ble_eq_true rfl⟩ rfl (by decide) (ci := 4) 0 rfl rfl rfl rfl rfl (Nat.le_of_ble_eq_true rfl) dL_law_970 (fun zu1 => by simp only [WG, rep, List.cons_append, List.nil_append, List.set_cons_zero, List.set_cons_succ] <;> rfl) (fun zu1 zk9 => ?_)
  refine j_top ((sp_copy (xs (i + 1)) (xs (i + 2)) (xs (i + 3)) (xs (i + 4)) (xs (i + 5)) S).1) rfl ?_
  refine j_aload_n 973 cx 1 dL_law_973 rfl ?_
  refine j_aload_n 974 cx 3 dL_law_974 rfl ?_
  refine j_iload_n 975 cx 0 dL_law_975 rfl ?_
  refine j_iconst 976 cx 1 dL_law_976 (by decide) ?_
  refine j_iadd 977 cx dL_law_977 ?_
  refine j_top (nI (i + 1)) (nI_add i 1) ?_
  refine j_sld 978 cx hX hbl hbA (i + 1) rfl (by omega) (by omega) dL_law_978 ?_
  refine j_aload_n 979 cx 3 dL_law_979 rfl ?_
  refine j_iload_n 980 cx 0 dL_law_980 rfl ?_
  refine j_iconst 981 cx 2 dL_law_981 (by decide) ?_
  refine j_iadd 982 cx dL_law_982 ?_
  refine j_top (nI (i + 2)) (nI_add i 2) ?_
  refine j_sld 983 cx hX hbl hbA (i + 2) rfl (by omega) (by omega) dL_law_983 ?_
  refine j_aload_n 984 cx 3 dL_law_984 rfl ?_
  refine j_iload_n 985 cx 0 dL_law_985 rfl ?_
  refine j_iconst 986 cx 3 dL_law_986 (by decide) ?_
  refine j_iadd 987 cx dL_law_987 ?_
  refine j_top (nI (i + 3)) (nI_add i 3) ?_
  refine j_sld 988 cx hX hbl hbA (i + 3) rfl (by omega) (by omega) dL_law_988 ?_
  refine j_aload_n 989 cx 3 dL_law_989 rfl ?_
  refine j_iload_n 990 cx 0 dL_law_990 rfl ?_
  refine j_iconst 991 cx 4 dL_law_991 (by decide) ?_
  refine j_iadd 992 cx dL_law_992 ?_
  refine j_top (nI (i + 4)) (nI_add i 4) ?_
  refine j_sld 993 cx hX hbl hbA (i + 4) rfl (by omega) (by omega) dL_law_993 ?_
  refine j_aload_n 994 cx 3 dL_law_994 rfl ?_
  refine j_iload_n 995 cx 0 dL_law_995 rfl ?_
  refine j_iconst 996 cx 5 dL_law_996 (by decide) ?_
  refine j_iadd 997 cx dL_law_997 ?_
  refine j_top (nI (i + 5)) (nI_add i 5) ?_
  refine j_sld 998 cx hX hbl hbA (i + 5) rfl (by omega) (by omega) dL_law_998 ?_
  refine j_callV_i 999 cx 5 [35, 39, 41, 42, 43] [.int (xs (i + 1)), .int (xs (i + 2)), .int (xs (i + 3)), .int (xs (i + 4)), .int (xs (i + 5))] (fun zu2 => WG G ox om ax am qh qt qk sh nh (sP S) (sN (sp_copy (xs (i + 1)) (xs (i + 2)) (xs (i + 3)) (xs (i + 4)) (xs (i + 5)) S).2) zu1 (sK S) (nI (sL S)) (sT S) tk st be nu (sB ((sp_copy (xs (i + 1)) (xs (i + 2)) (xs (i + 3)) (xs (i + 4)) (xs (i + 5)) S).2)) (sZ ((sp_copy (xs (i + 1)) (xs (i + 2)) (xs (i + 3)) (xs (i + 4)) (xs (i + 5)) S).2)) (sC ((sp_copy (xs (i + 1)) (xs (i + 2)) (xs (i + 3)) (xs (i + 4)) (xs (i + 5)) S).2)) (sF (sp_copy (xs (i + 1)) (xs (i + 2)) (xs (i + 3)) (xs (i + 4)) (xs (i + 5)) S).2) (sP S) la (nI (sL S)) mk mb ma mv bd (sN S) κ ω (sF (sp_copy (xs (i + 1)) (xs (i + 2)) (xs (i + 3)) (xs (i + 4)) (xs (i + 5)) S).2) (sT S) (sB (sp_copy (xs (i + 1)) (xs (i + 2)) (xs (i + 3)) (xs (i + 4)) (xs (i + 5)) S).2) (sZ (sp_copy (xs (i + 1)) (xs (i + 2)) (xs (i + 3)) (xs (i + 4)) (xs (i + 5)) S).2) (sC (sp_copy (xs (i + 1)) (xs (i + 2)) (xs (i + 3)) (xs (i + 4)) (xs (i + 5)) S).2)) (a_X6_copy (kl K) G om am S la mk mb ma mv bd hS (xs (i + 1)) (xs (i + 2)) (xs (i + 3)) (xs (i + 4)) (xs (i + 5))) gL_law_X6_copy rfl rfl rfl ⟨rfl, by decide, by decide, rfl⟩ ⟨Nat.le_of_ble_eq_true rfl, Nat.le_of_ble_eq_true rfl⟩ ⟨Nat.le_of_ble_eq_true rfl, Nat.le_of_ble_eq_true rfl⟩ rfl (by decide) (ci := 5) 0 rfl rfl rfl rfl rfl (Nat.le_of_ble_eq_true rfl) dL_law_999 (fun zu2 => by simp only [WG, rep, List.cons_append, List.nil_append, List.set_cons_zero, List.set_cons_succ] <;> rfl) (fun zu2 zk9 => ?_)
  refine j_top ((sp_copy (xs (i + 1)) (xs (i + 2)) (xs (i + 3)) (xs (i + 4)) (xs (i + 5)) S).1) rfl ?_
  refine j_icmp_eq_T 1002 cx 1171 dL_law_1002 (by decide) rfl ?_
  refine j_iinc 1171 cx [(3, .int (nI (i + 6))), (2, .ref om), (1, .ref ox), (0, .ref b)] 0 (nI (i + 6)) dL_law_1171 rfl (iinc6 i) (by decide) rfl ?_
  refine j_goto 1174 cx 18 dL_law_1174 (by decide) ?_
  have hc := shC_copy (xs (i + 1)) (xs (i + 2)) (xs (i + 3)) (xs (i + 4)) (xs (i + 5)) S
  have hk := kp_sh hc
  have h9 := ih (sp_copy (xs (i + 1)) (xs (i + 2)) (xs (i + 3)) (xs (i + 4)) (xs (i + 5)) S).2 zu1 κ ω tk st be nu la mk mb ma mv bd (is_copy (xs (i + 1)) (xs (i + 2)) (xs (i + 3)) (xs (i + 4)) (xs (i + 5)) hS) (fun q => by rw [hk.2.1] at q; rw [hk.1]; exact hκ q)
  rw [hk.1, hk.2.1, hk.2.2.1, hk.2.2.2, kn_sh hc] at h9
  rw [kn_sh hc]
  exact h9
set_option maxRecDepth 100000 in
set_option maxHeartbeats 4000000 in
theorem lc_lays {G : pG} {K : pK} (cx : CX G K cL_law RL wsL_law 4 room_1) {b L : Nat} {xs : Nat → Int32} (hX : va_X b L xs (ks K) (ks K).heap) (hbl : b < (ks K).heap.size) (hbA : ¬ kA K b) (hL : L ≤ 3072) (ox om : Nat) (ax am qh qt qk sh nh : Nat → Nat) (i : Nat) (hi : i + 6 ≤ L) (ih : ∀ (S : St) (τ κ ω : Nu) (tk st be nu la mk mb ma mv : Int32) (bd : Bool), InS S → (sP S = true → κ = sK S) → JJ G K 44 953 (WG G ox om ax am qh qt qk sh nh (sP S) (sN S) τ (sK S) (nI (sL S)) (sT S) tk st be nu (sB S) (sZ S) (sC S) (sF S) (sP S) la (nI (sL S)) mk mb ma mv bd (sN S) κ ω (sF S) (sT S) (sB S) (sZ S) (sC S)) [(3, .int (nI (i + 6))), (2, .ref om), (1, .ref ox), (0, .ref b)] 18 []) (S : St) (τ κ ω : Nu) (tk st be nu la mk mb ma mv : Int32) (bd : Bool) (hS : InS S) (hκ : sP S = true → κ = sK S) : JJ G K 44 953 (WG G ox om ax am qh qt qk sh nh (sP S) (sN S) τ (sK S) (nI (sL S)) (sT S) tk st be nu (sB S) (sZ S) (sC S) (sF S) (sP S) la (nI (sL S)) mk mb ma mv bd (sN S) κ ω (sF S) (sT S) (sB S) (sZ S) (sC S)) [(3, .int (nI (i))), (2, .ref om), (1, .ref ox), (0, .ref b)] 1007 [] := by
  refine j_aload_n 1007 cx 2 dL_law_1007 rfl ?_
  refine j_aload_n 1008 cx 3 dL_law_1008 rfl ?_
  refine j_iload_n 1009 cx 0 dL_law_1009 rfl ?_
  refine j_iconst 1010 cx 1 dL_law_1010 (by decide) ?_
  refine j_iadd 1011 cx dL_law_1011 ?_
  refine j_top (nI (i + 1)) (nI_add i 1) ?_
  refine j_sld 1012 cx hX hbl hbA (i + 1) rfl (by omega) (by omega) dL_law_1012 ?_
  refine j_callV_i 1013 cx 1 [0, 34, 25, 1, 2, 3, 4, 5, 6, 7, 8, 9, 10, 11, 12, 13, 14, 26, 27, 28, 29, 30, 31, 32, 33] [.int (xs (i + 1))] (fun zu1 => WG G ox om ax am qh qt qk sh nh (sP S) (sN (sp_lays (xs (i + 1)) S).2) zu1 (sK S) (nI (sL S)) (sT S) tk st be nu (sB ((sp_lays (xs (i + 1)) S).2)) (sZ ((sp_lays (xs (i + 1)) S).2)) (sC ((sp_lays (xs (i + 1)) S).2)) (sF (sp_lays (xs (i + 1)) S).2) (sP S) la (nI (sL S)) mk mb ma mv bd (sN S) κ ω (sF S) (sT S) (sB S) (sZ S) (sC S)) (a_X5_lays (kl K) G ox ax qh qt sh nh S τ hS (xs (i + 1))) gL_law_X5_lays rfl rfl rfl ⟨rfl, by decide, by decide, rfl⟩ ⟨Nat.le_of_ble_eq_true rfl, Nat.le_of_ble_eq_true rfl⟩ ⟨Nat.le_of_ble_eq_true rfl, Nat.le_of_ble_eq_true rfl⟩ rfl (by decide) (ci := 4) 0 rfl rfl rfl rfl rfl (Nat.le_of_ble_eq_true rfl) dL_law_1013 (fun zu1 => by simp only [WG, rep, List.cons_append, List.nil_append, List.set_cons_zero, List.set_cons_succ] <;> rfl) (fun zu1 zk9 => ?_)
  refine j_top ((sp_lays (xs (i + 1)) S).1) rfl ?_
  refine j_aload_n 1016 cx 1 dL_law_1016 rfl ?_
  refine j_aload_n 1017 cx 3 dL_law_1017 rfl ?_
  refine j_iload_n 1018 cx 0 dL_law_1018 rfl ?_
  refine j_iconst 1019 cx 1 dL_law_1019 (by decide) ?_
  refine j_iadd 1020 cx dL_law_1020 ?_
  refine j_top (nI (i + 1)) (nI_add i 1) ?_
  refine j_sld 1021 cx hX hbl hbA (i + 1) rfl (by omega) (by omega) dL_law_1021 ?_
  refine j_callV_i 1022 cx 1 [35, 36, 39, 41, 42, 43] [.int (xs (i + 1))] (fun zu2 => WG G ox om ax am qh qt qk sh nh (sP S) (sN (sp_lays (xs (i + 1)) S).2) zu1 (sK S) (nI (sL S)) (sT S) tk st be nu (sB ((sp_lays (xs (i + 1)) S).2)) (sZ ((sp_lays (xs (i + 1)) S).2)) (sC ((sp_lays (xs (i + 1)) S).2)) (sF (sp_lays (xs (i + 1)) S).2) (sP S) la (nI (sL S)) mk mb ma mv bd (sN (sp_lays (xs (i + 1)) S).2) κ ω (sF (sp_lays (xs (i + 1)) S).2) (sT S) (sB (sp_lays (xs (i + 1)) S).2) (sZ (sp_lays (xs (i + 1)) S).2) (sC (sp_lays (xs (i + 1)) S).2)) (a_X6_lays (kl K) G om am S la mk mb ma mv bd hS (xs (i + 1))) gL_law_X6_lays rfl rfl rfl ⟨rfl, by decide, by decide, rfl⟩ ⟨Nat.le_of_ble_eq_true rfl, Nat.le_of_ble_eq_true rfl⟩ ⟨Nat.le_of_ble_eq_true rfl, Nat.le_of_ble_eq_true rfl⟩ rfl (by decide) (ci := 5) 0 rfl rfl rfl rfl rfl (Nat.le_of_ble_eq_true rfl) dL_law_1022 (fun zu2 => by simp only [WG, rep, List.cons_append, List.nil_append, List.set_cons_zero, List.set_cons_succ] <;> rfl) (fun zu2 zk9 => ?_)
  refine j_top ((sp_lays (xs (i + 1)) S).1) rfl ?_
  refine j_icmp_eq_T 1025 cx 1171 dL_law_1025 (by decide) rfl ?_
  refine j_iinc 1171 cx [(3, .int (nI (i + 6))), (2, .ref om), (1, .ref ox), (0, .ref b)] 0 (nI (i + 6)) dL_law_1171 rfl (iinc6 i) (by decide) rfl ?_
  refine j_goto 1174 cx 18 dL_law_1174 (by decide) ?_
  obtain ⟨σ9, hc⟩ := shC_lays (xs (i + 1)) S
  have hk := kp_sh hc
  have h9 := ih (sp_lays (xs (i + 1)) S).2 zu1 κ ω tk st be nu la mk mb ma mv bd (is_lays (xs (i + 1)) hS) (fun q => by rw [hk.2.1] at q; rw [hk.1]; exact hκ q)
  rw [hk.1, hk.2.1, hk.2.2.1, hk.2.2.2] at h9
  exact h9
set_option maxRecDepth 100000 in
set_option maxHeartbeats 4000000 in
theorem lc_book {G : pG} {K : pK} (cx : CX G K cL_law RL wsL_law 4 room_1) {b L : Nat} {xs : Nat → Int32} (hX : va_X b L xs (ks K) (ks K).heap) (hbl : b < (ks K).heap.size) (hbA : ¬ kA K b) (hL : L ≤ 3072) (ox om : Nat) (ax am qh qt qk sh nh : Nat → Nat) (i : Nat) (hi : i + 6 ≤ L) (ih : ∀ (S : St) (τ κ ω : Nu) (tk st be nu la mk mb ma mv : Int32) (bd : Bool), InS S → (sP S = true → κ = sK S) → JJ G K 44 953 (WG G ox om ax am qh qt qk sh nh (sP S) (sN S) τ (sK S) (nI (sL S)) (sT S) tk st be nu (sB S) (sZ S) (sC S) (sF S) (sP S) la (nI (sL S)) mk mb ma mv bd (sN S) κ ω (sF S) (sT S) (sB S) (sZ S) (sC S)) [(3, .int (nI (i + 6))), (2, .ref om), (1, .ref ox), (0, .ref b)] 18 []) (S : St) (τ κ ω : Nu) (tk st be nu la mk mb ma mv : Int32) (bd : Bool) (hS : InS S) (hκ : sP S = true → κ = sK S) : JJ G K 44 953 (WG G ox om ax am qh qt qk sh nh (sP S) (sN S) τ (sK S) (nI (sL S)) (sT S) tk st be nu (sB S) (sZ S) (sC S) (sF S) (sP S) la (nI (sL S)) mk mb ma mv bd (sN S) κ ω (sF S) (sT S) (sB S) (sZ S) (sC S)) [(3, .int (nI (i))), (2, .ref om), (1, .ref ox), (0, .ref b)] 1030 [] := by
  refine j_aload_n 1030 cx 2 dL_law_1030 rfl ?_
  refine j_aload_n 1031 cx 3 dL_law_1031 rfl ?_
  refine j_iload_n 1032 cx 0 dL_law_1032 rfl ?_
  refine j_iconst 1033 cx 1 dL_law_1033 (by decide) ?_
  refine j_iadd 1034 cx dL_law_1034 ?_
  refine j_top (nI (i + 1)) (nI_add i 1) ?_
  refine j_sld 1035 cx hX hbl hbA (i + 1) rfl (by omega) (by omega) dL_law_1035 ?_
  refine j_callV_i 1036 cx 1 [0, 34, 25, 1, 2, 3, 4, 5, 6, 7, 8, 9, 10, 11, 12, 13, 14, 26, 27, 28, 29, 30, 31, 32, 33] [.int (xs (i + 1))] (fun zu1 => WG G ox om ax am qh qt qk sh nh (sP S) (sN (sp_book (xs (i + 1)) S).2) zu1 (sK S) (nI (sL S)) (sT S) tk st be nu (sB ((sp_book (xs (i + 1)) S).2)) (sZ ((sp_book (xs (i + 1)) S).2)) (sC ((sp_book (xs (i + 1)) S).2)) (sF (sp_book (xs (i + 1)) S).2) (sP S) la (nI (sL S)) mk mb ma mv bd (sN S) κ ω (sF S) (sT S) (sB S) (sZ S) (sC S)) (a_X5_book (kl K) G ox ax qh qt sh nh S τ hS (xs (i + 1))) gL_law_X5_book rfl rfl rfl ⟨rfl, by decide, by decide, rfl⟩ ⟨Nat.le_of_ble_eq_true rfl, Nat.le_of_ble_eq_true rfl⟩ ⟨Nat.le_of_ble_eq_true rfl, Nat.le_of_ble_eq_true rfl⟩ rfl (by decide) (ci := 4) 0 rfl rfl rfl rfl rfl (Nat.le_of_ble_eq_true rfl) dL_law_1036 (fun zu1 => by simp only [WG, rep, List.cons_append, List.nil_append, List.set_cons_zero, List.set_cons_succ] <;> rfl) (fun zu1 zk9 => ?_)
  refine j_top ((sp_book (xs (i + 1)) S).1) rfl ?_
  refine j_aload_n 1039 cx 1 dL_law_1039 rfl ?_
  refine j_aload_n 1040 cx 3 dL_law_1040 rfl ?_
  refine j_iload_n 1041 cx 0 dL_law_1041 rfl ?_
  refine j_iconst 1042 cx 1 dL_law_1042 (by decide) ?_
  refine j_iadd 1043 cx dL_law_1043 ?_
  refine j_top (nI (i + 1)) (nI_add i 1) ?_
  refine j_sld 1044 cx hX hbl hbA (i + 1) rfl (by omega) (by omega) dL_law_1044 ?_
  refine j_callV_i 1045 cx 1 [35, 36, 39, 38, 41, 42, 43] [.int (xs (i + 1))] (fun zu2 => WG G ox om ax am qh qt qk sh nh (sP S) (sN (sp_book (xs (i + 1)) S).2) zu1 (sK S) (nI (sL S)) (sT S) tk st be nu (sB ((sp_book (xs (i + 1)) S).2)) (sZ ((sp_book (xs (i + 1)) S).2)) (sC ((sp_book (xs (i + 1)) S).2)) (sF (sp_book (xs (i + 1)) S).2) (sP S) (zu2.1) (nI (sL S)) mk mb ma mv bd (sN (sp_book (xs (i + 1)) S).2) κ (zu2.2) (sF (sp_book (xs (i + 1)) S).2) (sT S) (sB (sp_book (xs (i + 1)) S).2) (sZ (sp_book (xs (i + 1)) S).2) (sC (sp_book (xs (i + 1)) S).2)) (a_X6_book (kl K) G om am S la mk mb ma mv bd ω hS (xs (i + 1))) gL_law_X6_book rfl rfl rfl ⟨rfl, by decide, by decide, rfl⟩ ⟨Nat.le_of_ble_eq_true rfl, Nat.le_of_ble_eq_true rfl⟩ ⟨Nat.le_of_ble_eq_true rfl, Nat.le_of_ble_eq_true rfl⟩ rfl (by decide) (ci := 5) 0 rfl rfl rfl rfl rfl (Nat.le_of_ble_eq_true rfl) dL_law_1045 (fun zu2 => by simp only [WG, rep, List.cons_append, List.nil_append, List.set_cons_zero, List.set_cons_succ] <;> rfl) (fun zu2 zk9 => ?_)
  refine j_top ((sp_book (xs (i + 1)) S).1) rfl ?_
  refine j_icmp_eq_T 1048 cx 1171 dL_law_1048 (by decide) rfl ?_
  refine j_iinc 1171 cx [(3, .int (nI (i + 6))), (2, .ref om), (1, .ref ox), (0, .ref b)] 0 (nI (i + 6)) dL_law_1171 rfl (iinc6 i) (by decide) rfl ?_
  refine j_goto 1174 cx 18 dL_law_1174 (by decide) ?_
  have hc := shC_book (xs (i + 1)) S
  have hk := kp_sh hc
  have h9 := ih (sp_book (xs (i + 1)) S).2 zu1 κ (zu2.2) tk st be nu (zu2.1) mk mb ma mv bd (is_book (xs (i + 1)) hS) (fun q => by rw [hk.2.1] at q; rw [hk.1]; exact hκ q)
  rw [hk.1, hk.2.1, hk.2.2.1, hk.2.2.2] at h9
  exact h9
