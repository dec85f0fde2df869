set_option maxRecDepth 100000 in
set_option maxHeartbeats 4000000 in
theorem c_X4_at (l : Launch) (G : pG) (ax : Nat → Nat) (t : TF) (n k : Nat) (hk : k < n) (hn : n ≤ 120) : KI l G yX4_at wsX4_at ({ frames := 0, cells := 0, slots := 0, locals := 0 } : Room) [.ref ((ax 4)), .int (nI k)] (wTP ax (nI n) ++ [((ax 8), .inl (gB G, 120, .inl (fun k => bt (t k))))]) (S := Unit) (fun _ => True) (fun u => bt (t k)) (fun u => wTP ax (nI n) ++ [((ax 8), .inl (gB G, 120, .inl (fun k => bt (t k))))]) := by
  refine ki_of [(0, .ref ((ax 4))), (1, .int (nI k))] (own := RX4) (cc := cX4_at) (nL := 2) (by decide +kernel) rfl rfl (Nat.le_of_ble_eq_true rfl) rfl (fun _ => rfl) (fun K cx fin => ?_)
  refine j_iload_n 0 cx 1 dX4_at_0 rfl ?_
  refine j_if_lt_F 1 cx 21 dX4_at_1 (by decide) (nI_pos (by omega)) ?_
  refine j_iload_n 4 cx 1 dX4_at_4 rfl ?_
  refine j_aload_n 5 cx 0 dX4_at_5 rfl ?_
  refine j_get 6 cx 0 1 (T := TX4) (v := .int (nI n)) (fun _ h => List.mem_cons_of_mem _ (List.mem_append_right _ (h))) (List.mem_of_getElem? (i := 1) rfl) (ci := 3) rfl (by decide) rfl rfl rfl dX4_at_6 ?_
  refine j_icmp_ge_F 9 cx 21 dX4_at_9 (by decide) (nI_ge (by omega) (by omega)) ?_
  refine j_aload_n 12 cx 0 dX4_at_12 rfl ?_
  refine j_get 13 cx 0 0 (T := TX4) (v := .ref ((ax 8))) (fun _ h => List.mem_cons_of_mem _ (List.mem_append_right _ (h))) (List.mem_of_getElem? (i := 2) rfl) (ci := 3) rfl (by decide) rfl rfl rfl dX4_at_13 ?_
  refine j_iload_n 16 cx 1 dX4_at_16 rfl ?_
  refine j_bald 17 cx 1 k rfl rfl (by omega) (by decide) dX4_at_17 ?_
  refine j_top (bt (t k)) rfl ?_
  refine j_goto 18 cx 22 dX4_at_18 (by decide) ?_
  exact fin () _ _ _ _ dX4_at_22 rfl rfl rfl trivial
set_option maxRecDepth 100000 in
set_option maxHeartbeats 4000000 in
theorem c_X2_isLetter (l : Launch) (G : pG) (v : Int32) : KI l G yX2_isLetter wsX2_isLetter ({ frames := 0, cells := 0, slots := 0, locals := 0 } : Room) [.int v] (([] : va_W)) (S := Unit) (fun _ => True) (fun u => bI (inI v 97 122)) (fun u => ([] : va_W)) := by
  refine ki_of [(0, .int v)] (own := RX2) (cc := cX2_isLetter) (nL := 1) (by decide +kernel) rfl rfl (Nat.le_of_ble_eq_true rfl) rfl (fun _ => rfl) (fun K cx fin => ?_)
  refine j_iload_n 0 cx 0 dX2_isLetter_0 rfl ?_
  refine j_bipush 1 cx 97 dX2_isLetter_1 (by decide) ?_
  refine j_icmp_lt 3 cx 16 dX2_isLetter_3 (by decide) (fun zc1 => ?_) (fun zc1 => ?_)
  · skip
    refine j_iconst 16 cx 0 dX2_isLetter_16 (by decide) ?_
    exact fin () _ _ _ _ dX2_isLetter_17 rfl (by rw [show inI v 97 122 = false from decide_eq_false (fun h => absurd zc1 (Int32.not_lt.mpr h.1))]; rfl) rfl trivial
  · skip
    refine j_iload_n 6 cx 0 dX2_isLetter_6 rfl ?_
    refine j_bipush 7 cx 122 dX2_isLetter_7 (by decide) ?_
    refine j_icmp_gt 9 cx 16 dX2_isLetter_9 (by decide) (fun zc2 => ?_) (fun zc2 => ?_)
    · skip
      refine j_iconst 16 cx 0 dX2_isLetter_16 (by decide) ?_
      exact fin () _ _ _ _ dX2_isLetter_17 rfl (by rw [show inI v 97 122 = false from decide_eq_false (fun h => absurd zc2 (Int32.not_lt.mpr h.2))]; rfl) rfl trivial
    · skip
      refine j_iconst 12 cx 1 dX2_isLetter_12 (by decide) ?_
      refine j_goto 13 cx 17 dX2_isLetter_13 (by decide) ?_
      exact fin () _ _ _ _ dX2_isLetter_17 rfl (by rw [show inI v 97 122 = true from decide_eq_true ⟨Int32.not_lt.mp zc1, Int32.not_lt.mp zc2⟩]; rfl) rfl trivial
set_option maxRecDepth 100000 in
set_option maxHeartbeats 4000000 in
theorem c_X2_isDigit (l : Launch) (G : pG) (v : Int32) : KI l G yX2_isDigit wsX2_isDigit ({ frames := 0, cells := 0, slots := 0, locals := 0 } : Room) [.int v] (([] : va_W)) (S := Unit) (fun _ => True) (fun u => bI (inI v 48 57)) (fun u => ([] : va_W)) := by
  refine ki_of [(0, .int v)] (own := RX2) (cc := cX2_isDigit) (nL := 1) (by decide +kernel) rfl rfl (Nat.le_of_ble_eq_true rfl) rfl (fun _ => rfl) (fun K cx fin => ?_)
  refine j_iload_n 0 cx 0 dX2_isDigit_0 rfl ?_
  refine j_bipush 1 cx 48 dX2_isDigit_1 (by decide) ?_
  refine j_icmp_lt 3 cx 16 dX2_isDigit_3 (by decide) (fun zc1 => ?_) (fun zc1 => ?_)
  · skip
    refine j_iconst 16 cx 0 dX2_isDigit_16 (by decide) ?_
    exact fin () _ _ _ _ dX2_isDigit_17 rfl (by rw [show inI v 48 57 = false from decide_eq_false (fun h => absurd zc1 (Int32.not_lt.mpr h.1))]; rfl) rfl trivial
  · skip
    refine j_iload_n 6 cx 0 dX2_isDigit_6 rfl ?_
    refine j_bipush 7 cx 57 dX2_isDigit_7 (by decide) ?_
    refine j_icmp_gt 9 cx 16 dX2_isDigit_9 (by decide) (fun zc2 => ?_) (fun zc2 => ?_)
    · skip
      refine j_iconst 16 cx 0 dX2_isDigit_16 (by decide) ?_
      exact fin () _ _ _ _ dX2_isDigit_17 rfl (by rw [show inI v 48 57 = false from decide_eq_false (fun h => absurd zc2 (Int32.not_lt.mpr h.2))]; rfl) rfl trivial
    · skip
      refine j_iconst 12 cx 1 dX2_isDigit_12 (by decide) ?_
      refine j_goto 13 cx 17 dX2_isDigit_13 (by decide) ?_
      exact fin () _ _ _ _ dX2_isDigit_17 rfl (by rw [show inI v 48 57 = true from decide_eq_true ⟨Int32.not_lt.mp zc1, Int32.not_lt.mp zc2⟩]; rfl) rfl trivial
set_option maxRecDepth 100000 in
set_option maxHeartbeats 4000000 in
theorem c_X2_step (l : Launch) (G : pG) (ax : Nat → Nat) (t : TF) (n : Nat) (p : Nat) (tk st nu : Int32) (hT : okT t) (hn : n ≤ 120) (hp : p ≤ n) : KV l G yX2_step wsX2_step ({ frames := 1, cells := 0, slots := 0, locals := 21 } : Room) [.ref ((ax 5))] (wRD ax tk st (nI p) nu ++ (wTP ax (nI n) ++ [((ax 8), .inl (gB G, 120, .inl (fun k => bt (t k))))])) (S := Int32) (fun u => rK (rdT t n p) = 20 → u = nI (min 10000 (rV (rdT t n p)))) (fun u => wRD ax (nI (cT (rK (rdT t n p)))) (nI (rB (rdT t n p))) (nI (rA (rdT t n p))) u ++ (wTP ax (nI n) ++ [((ax 8), .inl (gB G, 120, .inl (fun k => bt (t k))))])) := by
  refine kv_of [(0, .ref ((ax 5)))] (own := RX2) (cc := cX2_step) (nL := 1) (by decide +kernel) rfl rfl (Nat.le_of_ble_eq_true rfl) rfl (fun _ => rfl) (fun K cx fin => ?_)
  refine j_aload_n 0 cx 0 dX2_step_0 rfl ?_
  refine j_aload_n 1 cx 0 dX2_step_1 rfl ?_
  refine j_get 2 cx 0 3 (T := TX2) (v := .int (nI p)) (fun _ h => List.mem_cons_of_mem _ (List.mem_append_left _ (List.mem_append_right _ (h)))) (List.mem_of_getElem? (i := 1) rfl) (ci := 1) rfl (by decide) rfl rfl rfl dX2_step_2 ?_
  refine j_put 5 cx 0 2 (wRD ax tk (nI p) (nI p) nu ++ (wTP ax (nI n) ++ [((ax 8), .inl (gB G, 120, .inl (fun k => bt (t k))))])) (T := TX2) (ty0 := tyX2) (fun _ h => List.mem_cons_of_mem _ (List.mem_append_left _ (List.mem_append_right _ (h)))) (List.mem_of_getElem? (i := 2) rfl) (ci := 1) rfl (by decide) rfl tyX2_ok nmX2 rfl rfl rfl rfl (Nat.le_of_ble_eq_true rfl) rfl dX2_step_5 ?_
  have L8 : ∀ d : Nat, ∀ (s : Nat), (s + d = n) → (p ≤ s) → (sk t n 32 32 p = sk t n 32 32 s) → JJ G K 0 0 (wRD ax tk (nI s) (nI p) nu ++ (wTP ax (nI n) ++ [((ax 8), .inl (gB G, 120, .inl (fun k => bt (t k))))])) [(0, .ref ((ax 5)))] 8 [] := by
    intro d
    induction d with
    | zero =>
      intro s hs hs2 hS
      refine j_aload_n 8 cx 0 dX2_step_8 rfl ?_
      refine j_get 9 cx 0 2 (T := TX2) (v := .int (nI s)) (fun _ h => List.mem_cons_of_mem _ (List.mem_append_left _ (List.mem_append_right _ (h)))) (List.mem_of_getElem? (i := 2) rfl) (ci := 1) rfl (by decide) rfl rfl rfl dX2_step_9 ?_
      refine j_aload_n 12 cx 0 dX2_step_12 rfl ?_
      refine j_get 13 cx 0 0 (T := TX2) (v := .ref ((ax 4))) (fun _ h => List.mem_cons_of_mem _ (List.mem_append_left _ (List.mem_append_right _ (h)))) (List.mem_of_getElem? (i := 3) rfl) (ci := 1) rfl (by decide) rfl rfl rfl dX2_step_13 ?_
      refine j_get 16 cx 1 1 (T := TX4) (v := .int (nI n)) (fun _ h => List.mem_cons_of_mem _ (List.mem_append_right _ (h))) (List.mem_of_getElem? (i := 4) rfl) (ci := 3) rfl (by decide) rfl rfl rfl dX2_step_16 ?_
      refine j_icmp_ge_T 19 cx 51 dX2_step_19 (by decide) (nI_le (by omega) (by omega)) ?_
      have hb : sk t n 32 32 p = s := hS.trans (sk_f (isb_n (by omega)))
      refine j_aload_n 51 cx 0 dX2_step_51 rfl ?_
      refine j_aload_n 52 cx 0 dX2_step_52 rfl ?_
      refine j_get 53 cx 0 2 (T := TX2) (v := .int (nI s)) (fun _ h => List.mem_cons_of_mem _ (List.mem_append_left _ (List.mem_append_right _ (h)))) (List.mem_of_getElem? (i := 2) rfl) (ci := 1) rfl (by decide) rfl rfl rfl dX2_step_53 ?_
      refine j_put 56 cx 0 3 (wRD ax tk (nI s) (nI s) nu ++ (wTP ax (nI n) ++ [((ax 8), .inl (gB G, 120, .inl (fun k => bt (t k))))])) (T := TX2) (ty0 := tyX2) (fun _ h => List.mem_cons_of_mem _ (List.mem_append_left _ (List.mem_append_right _ (h)))) (List.mem_of_getElem? (i := 1) rfl) (ci := 1) rfl (by decide) rfl tyX2_ok nmX2 rfl rfl rfl rfl (Nat.le_of_ble_eq_true rfl) rfl dX2_step_56 ?_
      refine j_aload_n 59 cx 0 dX2_step_59 rfl ?_
      refine j_get 60 cx 0 2 (T := TX2) (v := .int (nI s)) (fun _ h => List.mem_cons_of_mem _ (List.mem_append_left _ (List.mem_append_right _ (h)))) (List.mem_of_getElem? (i := 2) rfl) (ci := 1) rfl (by decide) rfl rfl rfl dX2_step_60 ?_
      refine j_aload_n 63 cx 0 dX2_step_63 rfl ?_
      refine j_get 64 cx 0 0 (T := TX2) (v := .ref ((ax 4))) (fun _ h => List.mem_cons_of_mem _ (List.mem_append_left _ (List.mem_append_right _ (h)))) (List.mem_of_getElem? (i := 3) rfl) (ci := 1) rfl (by decide) rfl rfl rfl dX2_step_64 ?_
      refine j_get 67 cx 1 1 (T := TX4) (v := .int (nI n)) (fun _ h => List.mem_cons_of_mem _ (List.mem_append_right _ (h))) (List.mem_of_getElem? (i := 4) rfl) (ci := 3) rfl (by decide) rfl rfl rfl dX2_step_67 ?_
      refine j_icmp_lt_F 70 cx 81 dX2_step_70 (by decide) (nI_nlt (by omega) (by omega)) ?_
      refine j_aload_n 73 cx 0 dX2_step_73 rfl ?_
      refine j_iconst 74 cx 0 dX2_step_74 (by decide) ?_
      refine j_put 75 cx 0 1 (wRD ax 0 (nI s) (nI s) nu ++ (wTP ax (nI n) ++ [((ax 8), .inl (gB G, 120, .inl (fun k => bt (t k))))])) (T := TX2) (ty0 := tyX2) (fun _ h => List.mem_cons_of_mem _ (List.mem_append_left _ (List.mem_append_right _ (h)))) (List.mem_of_getElem? (i := 5) rfl) (ci := 1) rfl (by decide) rfl tyX2_ok nmX2 rfl rfl rfl rfl (Nat.le_of_ble_eq_true rfl) rfl dX2_step_75 ?_
      refine j_goto 78 cx 285 dX2_step_78 (by decide) ?_
      have hr9 : rdT t n p = (22, s, s, 0) := rd_end hb (by omega)
      have hk9 : cT (rK (rdT t n p)) = 0 := by rw [hr9] <;> rfl
      have hb9 : rB (rdT t n p) = s := by rw [hr9]
      have ha9 : rA (rdT t n p) = s := by rw [hr9]
      exact fin nu _ _ _ dX2_step_285 (by rw [hk9, hb9, ha9] <;> rfl) (fun q => by rw [hr9] at q; exact absurd q (by show ¬ (22 : Nat) = 20; decide))
    | succ d ih8 =>
      intro s hs hs2 hS
      refine j_aload_n 8 cx 0 dX2_step_8 rfl ?_
      refine j_get 9 cx 0 2 (T := TX2) (v := .int (nI s)) (fun _ h => List.mem_cons_of_mem _ (List.mem_append_left _ (List.mem_append_right _ (h)))) (List.mem_of_getElem? (i := 2) rfl) (ci := 1) rfl (by decide) rfl rfl rfl dX2_step_9 ?_
      refine j_aload_n 12 cx 0 dX2_step_12 rfl ?_
      refine j_get 13 cx 0 0 (T := TX2) (v := .ref ((ax 4))) (fun _ h => List.mem_cons_of_mem _ (List.mem_append_left _ (List.mem_append_right _ (h)))) (List.mem_of_getElem? (i := 3) rfl) (ci := 1) rfl (by decide) rfl rfl rfl dX2_step_13 ?_
      refine j_get 16 cx 1 1 (T := TX4) (v := .int (nI n)) (fun _ h => List.mem_cons_of_mem _ (List.mem_append_right _ (h))) (List.mem_of_getElem? (i := 4) rfl) (ci := 3) rfl (by decide) rfl rfl rfl dX2_step_16 ?_
      refine j_icmp_ge_F 19 cx 51 dX2_step_19 (by decide) (nI_ge (by omega) (by omega)) ?_
      refine j_aload_n 22 cx 0 dX2_step_22 rfl ?_
      refine j_get 23 cx 0 0 (T := TX2) (v := .ref ((ax 4))) (fun _ h => List.mem_cons_of_mem _ (List.mem_append_left _ (List.mem_append_right _ (h)))) (List.mem_of_getElem? (i := 3) rfl) (ci := 1) rfl (by decide) rfl rfl rfl dX2_step_23 ?_
      refine j_aload_n 26 cx 0 dX2_step_26 rfl ?_
      refine j_get 27 cx 0 2 (T := TX2) (v := .int (nI s)) (fun _ h => List.mem_cons_of_mem _ (List.mem_append_left _ (List.mem_append_right _ (h)))) (List.mem_of_getElem? (i := 2) rfl) (ci := 1) rfl (by decide) rfl rfl rfl dX2_step_27 ?_
      refine j_callV_i 30 cx 1 [1, 2] [.int (nI s)] (fun _ => wRD ax tk (nI s) (nI p) nu ++ (wTP ax (nI n) ++ [((ax 8), .inl (gB G, 120, .inl (fun k => bt (t k))))])) (c_X4_at (kl K) G ax t n s (by omega) hn) gX2_step_X4_at rfl rfl rfl ⟨rfl, by decide, by decide, rfl⟩ ⟨Nat.le_of_ble_eq_true rfl, Nat.le_of_ble_eq_true rfl⟩ ⟨Nat.zero_le _, Nat.zero_le _⟩ rfl (by decide) (ci := 3) 0 rfl rfl rfl rfl rfl (Nat.le_of_ble_eq_true rfl) dX2_step_30 (fun _ => rfl) (fun zu1 zk1 => ?_)
      refine j_top (bt (t s)) rfl ?_
      refine j_bipush 33 cx 32 dX2_step_33 (by decide) ?_
      refine j_icmp_ne 35 cx 51 dX2_step_35 (by decide) (fun zc1 => ?_) (fun zc1 => ?_)
      · skip
        have hb : sk t n 32 32 p = s := hS.trans (sk_f (isb_f (Bool.eq_false_iff.mpr (fun q => zc1 ((bt_eq hT s (by decide) (by decide)).mpr (in_one.mp q))))))
        refine j_aload_n 51 cx 0 dX2_step_51 rfl ?_
        refine j_aload_n 52 cx 0 dX2_step_52 rfl ?_
        refine j_get 53 cx 0 2 (T := TX2) (v := .int (nI s)) (fun _ h => List.mem_cons_of_mem _ (List.mem_append_left _ (List.mem_append_right _ (h)))) (List.mem_of_getElem? (i := 2) rfl) (ci := 1) rfl (by decide) rfl rfl rfl dX2_step_53 ?_
        refine j_put 56 cx 0 3 (wRD ax tk (nI s) (nI s) nu ++ (wTP ax (nI n) ++ [((ax 8), .inl (gB G, 120, .inl (fun k => bt (t k))))])) (T := TX2) (ty0 := tyX2) (fun _ h => List.mem_cons_of_mem _ (List.mem_append_left _ (List.mem_append_right _ (h)))) (List.mem_of_getElem? (i := 1) rfl) (ci := 1) rfl (by decide) rfl tyX2_ok nmX2 rfl rfl rfl rfl (Nat.le_of_ble_eq_true rfl) rfl dX2_step_56 ?_
        refine j_aload_n 59 cx 0 dX2_step_59 rfl ?_
        refine j_get 60 cx 0 2 (T := TX2) (v := .int (nI s)) (fun _ h => List.mem_cons_of_mem _ (List.mem_append_left _ (List.mem_append_right _ (h)))) (List.mem_of_getElem? (i := 2) rfl) (ci := 1) rfl (by decide) rfl rfl rfl dX2_step_60 ?_
        refine j_aload_n 63 cx 0 dX2_step_63 rfl ?_
        refine j_get 64 cx 0 0 (T := TX2) (v := .ref ((ax 4))) (fun _ h => List.mem_cons_of_mem _ (List.mem_append_left _ (List.mem_append_right _ (h)))) (List.mem_of_getElem? (i := 3) rfl) (ci := 1) rfl (by decide) rfl rfl rfl dX2_step_64 ?_
        refine j_get 67 cx 1 1 (T := TX4) (v := .int (nI n)) (fun _ h => List.mem_cons_of_mem _ (List.mem_append_right _ (h))) (List.mem_of_getElem? (i := 4) rfl) (ci := 3) rfl (by decide) rfl rfl rfl dX2_step_67 ?_
        refine j_icmp_lt_T 70 cx 81 dX2_step_70 (by decide) (nI_lt (by omega) (by omega)) ?_
        refine j_aload_n 81 cx 0 dX2_step_81 rfl ?_
        refine j_get 82 cx 0 0 (T := TX2) (v := .ref ((ax 4))) (fun _ h => List.mem_cons_of_mem _ (List.mem_append_left _ (List.mem_append_right _ (h)))) (List.mem_of_getElem? (i := 3) rfl) (ci := 1) rfl (by decide) rfl rfl rfl dX2_step_82 ?_
        refine j_aload_n 85 cx 0 dX2_step_85 rfl ?_
        refine j_get 86 cx 0 2 (T := TX2) (v := .int (nI s)) (fun _ h => List.mem_cons_of_mem _ (List.mem_append_left _ (List.mem_append_right _ (h)))) (List.mem_of_getElem? (i := 2) rfl) (ci := 1) rfl (by decide) rfl rfl rfl dX2_step_86 ?_
        refine j_callV_i 89 cx 1 [1, 2] [.int (nI s)] (fun _ => wRD ax tk (nI s) (nI s) nu ++ (wTP ax (nI n) ++ [((ax 8), .inl (gB G, 120, .inl (fun k => bt (t k))))])) (c_X4_at (kl K) G ax t n s (by omega) hn) gX2_step_X4_at rfl rfl rfl ⟨rfl, by decide, by decide, rfl⟩ ⟨Nat.le_of_ble_eq_true rfl, Nat.le_of_ble_eq_true rfl⟩ ⟨Nat.zero_le _, Nat.zero_le _⟩ rfl (by decide) (ci := 3) 0 rfl rfl rfl rfl rfl (Nat.le_of_ble_eq_true rfl) dX2_step_89 (fun _ => rfl) (fun zu2 zk2 => ?_)
        refine j_top (bt (t s)) rfl ?_
        refine j_callS_i 92 cx 1 [] [.int (bt (t s))] (fun _ => wRD ax tk (nI s) (nI s) nu ++ (wTP ax (nI n) ++ [((ax 8), .inl (gB G, 120, .inl (fun k => bt (t k))))])) (c_X2_isLetter (kl K) G (bt (t s))) gX2_step_X2_isLetter rfl rfl rfl ⟨by decide, by decide, rfl⟩ ⟨Nat.le_of_ble_eq_true rfl, Nat.le_of_ble_eq_true rfl⟩ ⟨Nat.zero_le _, Nat.zero_le _⟩ rfl (by decide) rfl rfl (Nat.le_of_ble_eq_true rfl) dX2_step_92 (fun _ => rfl) (fun zu3 zk3 => ?_)
        refine j_top (bI (inI (bt (t s)) 97 122)) rfl ?_
        refine j_top (bI (inI (t s) 97 122)) (congrArg bI (bt_in hT _ (by decide) (by decide))) ?_
        refine j_ifB_eq 95 cx 147 dX2_step_95 (by decide) (fun zc2 => ?_) (fun zc2 => ?_)
        · skip
          refine j_aload_n 147 cx 0 dX2_step_147 rfl ?_
          refine j_get 148 cx 0 0 (T := TX2) (v := .ref ((ax 4))) (fun _ h => List.mem_cons_of_mem _ (List.mem_append_left _ (List.mem_append_right _ (h)))) (List.mem_of_getElem? (i := 3) rfl) (ci := 1) rfl (by decide) rfl rfl rfl dX2_step_148 ?_
          refine j_aload_n 151 cx 0 dX2_step_151 rfl ?_
          refine j_get 152 cx 0 2 (T := TX2) (v := .int (nI s)) (fun _ h => List.mem_cons_of_mem _ (List.mem_append_left _ (List.mem_append_right _ (h)))) (List.mem_of_getElem? (i := 2) rfl) (ci := 1) rfl (by decide) rfl rfl rfl dX2_step_152 ?_
          refine j_callV_i 155 cx 1 [1, 2] [.int (nI s)] (fun _ => wRD ax tk (nI s) (nI s) nu ++ (wTP ax (nI n) ++ [((ax 8), .inl (gB G, 120, .inl (fun k => bt (t k))))])) (c_X4_at (kl K) G ax t n s (by omega) hn) gX2_step_X4_at rfl rfl rfl ⟨rfl, by decide, by decide, rfl⟩ ⟨Nat.le_of_ble_eq_true rfl, Nat.le_of_ble_eq_true rfl⟩ ⟨Nat.zero_le _, Nat.zero_le _⟩ rfl (by decide) (ci := 3) 0 rfl rfl rfl rfl rfl (Nat.le_of_ble_eq_true rfl) dX2_step_155 (fun _ => rfl) (fun zu4 zk4 => ?_)
          refine j_top (bt (t s)) rfl ?_
          refine j_callS_i 158 cx 1 [] [.int (bt (t s))] (fun _ => wRD ax tk (nI s) (nI s) nu ++ (wTP ax (nI n) ++ [((ax 8), .inl (gB G, 120, .inl (fun k => bt (t k))))])) (c_X2_isDigit (kl K) G (bt (t s))) gX2_step_X2_isDigit rfl rfl rfl ⟨by decide, by decide, rfl⟩ ⟨Nat.le_of_ble_eq_true rfl, Nat.le_of_ble_eq_true rfl⟩ ⟨Nat.zero_le _, Nat.zero_le _⟩ rfl (by decide) rfl rfl (Nat.le_of_ble_eq_true rfl) dX2_step_158 (fun _ => rfl) (fun zu5 zk5 => ?_)
          refine j_top (bI (inI (bt (t s)) 48 57)) rfl ?_
          refine j_top (bI (inI (t s) 48 57)) (congrArg bI (bt_in hT _ (by decide) (by decide))) ?_
          refine j_ifB_eq 161 cx 250 dX2_step_161 (by decide) (fun zc3 => ?_) (fun zc3 => ?_)
          · skip
            refine j_aload_n 250 cx 0 dX2_step_250 rfl ?_
            refine j_aload_n 251 cx 0 dX2_step_251 rfl ?_
            refine j_get 252 cx 0 0 (T := TX2) (v := .ref ((ax 4))) (fun _ h => List.mem_cons_of_mem _ (List.mem_append_left _ (List.mem_append_right _ (h)))) (List.mem_of_getElem? (i := 3) rfl) (ci := 1) rfl (by decide) rfl rfl rfl dX2_step_252 ?_
            refine j_aload_n 255 cx 0 dX2_step_255 rfl ?_
            refine j_get 256 cx 0 2 (T := TX2) (v := .int (nI s)) (fun _ h => List.mem_cons_of_mem _ (List.mem_append_left _ (List.mem_append_right _ (h)))) (List.mem_of_getElem? (i := 2) rfl) (ci := 1) rfl (by decide) rfl rfl rfl dX2_step_256 ?_
            refine j_callV_i 259 cx 1 [1, 2] [.int (nI s)] (fun _ => wRD ax tk (nI s) (nI s) nu ++ (wTP ax (nI n) ++ [((ax 8), .inl (gB G, 120, .inl (fun k => bt (t k))))])) (c_X4_at (kl K) G ax t n s (by omega) hn) gX2_step_X4_at rfl rfl rfl ⟨rfl, by decide, by decide, rfl⟩ ⟨Nat.le_of_ble_eq_true rfl, Nat.le_of_ble_eq_true rfl⟩ ⟨Nat.zero_le _, Nat.zero_le _⟩ rfl (by decide) (ci := 3) 0 rfl rfl rfl rfl rfl (Nat.le_of_ble_eq_true rfl) dX2_step_259 (fun _ => rfl) (fun zu6 zk6 => ?_)
            refine j_top (bt (t s)) rfl ?_
            refine j_bipush 262 cx 59 dX2_step_262 (by decide) ?_
            refine j_icmp_ne 264 cx 271 dX2_step_264 (by decide) (fun zc4 => ?_) (fun zc4 => ?_)
            · skip
              refine j_iconst 271 cx 4 dX2_step_271 (by decide) ?_
              refine j_put 272 cx 0 1 (wRD ax 4 (nI s) (nI s) nu ++ (wTP ax (nI n) ++ [((ax 8), .inl (gB G, 120, .inl (fun k => bt (t k))))])) (T := TX2) (ty0 := tyX2) (fun _ h => List.mem_cons_of_mem _ (List.mem_append_left _ (List.mem_append_right _ (h)))) (List.mem_of_getElem? (i := 5) rfl) (ci := 1) rfl (by decide) rfl tyX2_ok nmX2 rfl rfl rfl rfl (Nat.le_of_ble_eq_true rfl) rfl dX2_step_272 ?_
              refine j_aload_n 275 cx 0 dX2_step_275 rfl ?_
              refine j_dup 276 cx dX2_step_276 rfl ?_
              refine j_get 277 cx 0 3 (T := TX2) (v := .int (nI s)) (fun _ h => List.mem_cons_of_mem _ (List.mem_append_left _ (List.mem_append_right _ (h)))) (List.mem_of_getElem? (i := 1) rfl) (ci := 1) rfl (by decide) rfl rfl rfl dX2_step_277 ?_
              refine j_iconst 280 cx 1 dX2_step_280 (by decide) ?_
              refine j_iadd 281 cx dX2_step_281 ?_
              refine j_top (nI (s + 1)) (nI_add s 1) ?_
              refine j_put 282 cx 0 3 (wRD ax 4 (nI s) (nI (s + 1)) nu ++ (wTP ax (nI n) ++ [((ax 8), .inl (gB G, 120, .inl (fun k => bt (t k))))])) (T := TX2) (ty0 := tyX2) (fun _ h => List.mem_cons_of_mem _ (List.mem_append_left _ (List.mem_append_right _ (h)))) (List.mem_of_getElem? (i := 1) rfl) (ci := 1) rfl (by decide) rfl tyX2_ok nmX2 rfl rfl rfl rfl (Nat.le_of_ble_eq_true rfl) rfl dX2_step_282 ?_
              have hr9 : rdT t n p = (23, s, s + 1, 0) := rd_oth hb (by omega) zc2 zc3 (fun q => zc4 ((bt_eq hT s (by decide) (by decide)).mpr q))
              have hk9 : cT (rK (rdT t n p)) = 4 := by rw [hr9] <;> rfl
              have hb9 : rB (rdT t n p) = s := by rw [hr9]
              have ha9 : rA (rdT t n p) = s + 1 := by rw [hr9]
              exact fin nu _ _ _ dX2_step_285 (by rw [hk9, hb9, ha9] <;> rfl) (fun q => by rw [hr9] at q; exact absurd q (by show ¬ (23 : Nat) = 20; decide))
            · skip
              refine j_iconst 267 cx 3 dX2_step_267 (by decide) ?_
              refine j_goto 268 cx 272 dX2_step_268 (by decide) ?_
              refine j_put 272 cx 0 1 (wRD ax 3 (nI s) (nI s) nu ++ (wTP ax (nI n) ++ [((ax 8), .inl (gB G, 120, .inl (fun k => bt (t k))))])) (T := TX2) (ty0 := tyX2) (fun _ h => List.mem_cons_of_mem _ (List.mem_append_left _ (List.mem_append_right _ (h)))) (List.mem_of_getElem? (i := 5) rfl) (ci := 1) rfl (by decide) rfl tyX2_ok nmX2 rfl rfl rfl rfl (Nat.le_of_ble_eq_true rfl) rfl dX2_step_272 ?_
              refine j_aload_n 275 cx 0 dX2_step_275 rfl ?_
              refine j_dup 276 cx dX2_step_276 rfl ?_
              refine j_get 277 cx 0 3 (T := TX2) (v := .int (nI s)) (fun _ h => List.mem_cons_of_mem _ (List.mem_append_left _ (List.mem_append_right _ (h)))) (List.mem_of_getElem? (i := 1) rfl) (ci := 1) rfl (by decide) rfl rfl rfl dX2_step_277 ?_
              refine j_iconst 280 cx 1 dX2_step_280 (by decide) ?_
              refine j_iadd 281 cx dX2_step_281 ?_
              refine j_top (nI (s + 1)) (nI_add s 1) ?_
              refine j_put 282 cx 0 3 (wRD ax 3 (nI s) (nI (s + 1)) nu ++ (wTP ax (nI n) ++ [((ax 8), .inl (gB G, 120, .inl (fun k => bt (t k))))])) (T := TX2) (ty0 := tyX2) (fun _ h => List.mem_cons_of_mem _ (List.mem_append_left _ (List.mem_append_right _ (h)))) (List.mem_of_getElem? (i := 1) rfl) (ci := 1) rfl (by decide) rfl tyX2_ok nmX2 rfl rfl rfl rfl (Nat.le_of_ble_eq_true rfl) rfl dX2_step_282 ?_
              have hr9 : rdT t n p = (21, s, s + 1, 0) := rd_semi hb (by omega) zc2 zc3 ((bt_eq hT s (by decide) (by decide)).mp zc4)
              have hk9 : cT (rK (rdT t n p)) = 3 := by rw [hr9] <;> rfl
              have hb9 : rB (rdT t n p) = s := by rw [hr9]
              have ha9 : rA (rdT t n p) = s + 1 := by rw [hr9]
              exact fin nu _ _ _ dX2_step_285 (by rw [hk9, hb9, ha9] <;> rfl) (fun q => by rw [hr9] at q; exact absurd q (by show ¬ (21 : Nat) = 20; decide))
          · skip
            refine j_aload_n 164 cx 0 dX2_step_164 rfl ?_
            refine j_iconst 165 cx 2 dX2_step_165 (by decide) ?_
            refine j_put 166 cx 0 1 (wRD ax 2 (nI s) (nI s) nu ++ (wTP ax (nI n) ++ [((ax 8), .inl (gB G, 120, .inl (fun k => bt (t k))))])) (T := TX2) (ty0 := tyX2) (fun _ h => List.mem_cons_of_mem _ (List.mem_append_left _ (List.mem_append_right _ (h)))) (List.mem_of_getElem? (i := 5) rfl) (ci := 1) rfl (by decide) rfl tyX2_ok nmX2 rfl rfl rfl rfl (Nat.le_of_ble_eq_true rfl) rfl dX2_step_166 ?_
            refine j_aload_n 169 cx 0 dX2_step_169 rfl ?_
            refine j_iconst 170 cx 0 dX2_step_170 (by decide) ?_
            refine j_put 171 cx 0 4 (wRD ax 2 (nI s) (nI s) 0 ++ (wTP ax (nI n) ++ [((ax 8), .inl (gB G, 120, .inl (fun k => bt (t k))))])) (T := TX2) (ty0 := tyX2) (fun _ h => List.mem_cons_of_mem _ (List.mem_append_left _ (List.mem_append_right _ (h)))) (List.mem_of_getElem? (i := 6) rfl) (ci := 1) rfl (by decide) rfl tyX2_ok nmX2 rfl rfl rfl rfl (Nat.le_of_ble_eq_true rfl) rfl dX2_step_171 ?_
            have L174 : ∀ d : Nat, ∀ (e v : Nat), (e + d = n) → (s ≤ e) → (sk t n 48 57 s = sk t n 48 57 e) → (nv t n 0 s = nv t n v e) → (v ≤ 99999) → JJ G K 0 0 (wRD ax 2 (nI s) (nI e) (nI (min 10000 v)) ++ (wTP ax (nI n) ++ [((ax 8), .inl (gB G, 120, .inl (fun k => bt (t k))))])) [(0, .ref ((ax 5)))] 174 [] := by
              intro d
              induction d with
              | zero =>
                intro e v he he2 hE hV hv
                refine j_aload_n 174 cx 0 dX2_step_174 rfl ?_
                refine j_get 175 cx 0 3 (T := TX2) (v := .int (nI e)) (fun _ h => List.mem_cons_of_mem _ (List.mem_append_left _ (List.mem_append_right _ (h)))) (List.mem_of_getElem? (i := 1) rfl) (ci := 1) rfl (by decide) rfl rfl rfl dX2_step_175 ?_
                refine j_aload_n 178 cx 0 dX2_step_178 rfl ?_
                refine j_get 179 cx 0 0 (T := TX2) (v := .ref ((ax 4))) (fun _ h => List.mem_cons_of_mem _ (List.mem_append_left _ (List.mem_append_right _ (h)))) (List.mem_of_getElem? (i := 3) rfl) (ci := 1) rfl (by decide) rfl rfl rfl dX2_step_179 ?_
                refine j_get 182 cx 1 1 (T := TX4) (v := .int (nI n)) (fun _ h => List.mem_cons_of_mem _ (List.mem_append_right _ (h))) (List.mem_of_getElem? (i := 4) rfl) (ci := 3) rfl (by decide) rfl rfl rfl dX2_step_182 ?_
                refine j_icmp_ge_T 185 cx 285 dX2_step_185 (by decide) (nI_le (by omega) (by omega)) ?_
                have hr9 : rdT t n p = (20, s, e, v) := rd_num hb (by omega) zc2 zc3 (hE.trans (sk_f (isb_n (by omega)))) (hV.trans (nv_f (isb_n (by omega))))
                have hk9 : cT (rK (rdT t n p)) = 2 := by rw [hr9] <;> rfl
                have hb9 : rB (rdT t n p) = s := by rw [hr9]
                have ha9 : rA (rdT t n p) = e := by rw [hr9]
                exact fin (nI (min 10000 v)) _ _ _ dX2_step_285 (by rw [hk9, hb9, ha9] <;> rfl) (fun _ => by rw [hr9])
              | succ d ih174 =>
                intro e v he he2 hE hV hv
                refine j_aload_n 174 cx 0 dX2_step_174 rfl ?_
                refine j_get 175 cx 0 3 (T := TX2) (v := .int (nI e)) (fun _ h => List.mem_cons_of_mem _ (List.mem_append_left _ (List.mem_append_right _ (h)))) (List.mem_of_getElem? (i := 1) rfl) (ci := 1) rfl (by decide) rfl rfl rfl dX2_step_175 ?_
                refine j_aload_n 178 cx 0 dX2_step_178 rfl ?_
                refine j_get 179 cx 0 0 (T := TX2) (v := .ref ((ax 4))) (fun _ h => List.mem_cons_of_mem _ (List.mem_append_left _ (List.mem_append_right _ (h)))) (List.mem_of_getElem? (i := 3) rfl) (ci := 1) rfl (by decide) rfl rfl rfl dX2_step_179 ?_
                refine j_get 182 cx 1 1 (T := TX4) (v := .int (nI n)) (fun _ h => List.mem_cons_of_mem _ (List.mem_append_right _ (h))) (List.mem_of_getElem? (i := 4) rfl) (ci := 3) rfl (by decide) rfl rfl rfl dX2_step_182 ?_
                refine j_icmp_ge_F 185 cx 285 dX2_step_185 (by decide) (nI_ge (by omega) (by omega)) ?_
                refine j_aload_n 188 cx 0 dX2_step_188 rfl ?_
                refine j_get 189 cx 0 0 (T := TX2) (v := .ref ((ax 4))) (fun _ h => List.mem_cons_of_mem _ (List.mem_append_left _ (List.mem_append_right _ (h)))) (List.mem_of_getElem? (i := 3) rfl) (ci := 1) rfl (by decide) rfl rfl rfl dX2_step_189 ?_
                refine j_aload_n 192 cx 0 dX2_step_192 rfl ?_
                refine j_get 193 cx 0 3 (T := TX2) (v := .int (nI e)) (fun _ h => List.mem_cons_of_mem _ (List.mem_append_left _ (List.mem_append_right _ (h)))) (List.mem_of_getElem? (i := 1) rfl) (ci := 1) rfl (by decide) rfl rfl rfl dX2_step_193 ?_
                refine j_callV_i 196 cx 1 [1, 2] [.int (nI e)] (fun _ => wRD ax 2 (nI s) (nI e) (nI (min 10000 v)) ++ (wTP ax (nI n) ++ [((ax 8), .inl (gB G, 120, .inl (fun k => bt (t k))))])) (c_X4_at (kl K) G ax t n e (by omega) hn) gX2_step_X4_at rfl rfl rfl ⟨rfl, by decide, by decide, rfl⟩ ⟨Nat.le_of_ble_eq_true rfl, Nat.le_of_ble_eq_true rfl⟩ ⟨Nat.zero_le _, Nat.zero_le _⟩ rfl (by decide) (ci := 3) 0 rfl rfl rfl rfl rfl (Nat.le_of_ble_eq_true rfl) dX2_step_196 (fun _ => rfl) (fun zu7 zk7 => ?_)
                refine j_top (bt (t e)) rfl ?_
                refine j_callS_i 199 cx 1 [] [.int (bt (t e))] (fun _ => wRD ax 2 (nI s) (nI e) (nI (min 10000 v)) ++ (wTP ax (nI n) ++ [((ax 8), .inl (gB G, 120, .inl (fun k => bt (t k))))])) (c_X2_isDigit (kl K) G (bt (t e))) gX2_step_X2_isDigit rfl rfl rfl ⟨by decide, by decide, rfl⟩ ⟨Nat.le_of_ble_eq_true rfl, Nat.le_of_ble_eq_true rfl⟩ ⟨Nat.zero_le _, Nat.zero_le _⟩ rfl (by decide) rfl rfl (Nat.le_of_ble_eq_true rfl) dX2_step_199 (fun _ => rfl) (fun zu8 zk8 => ?_)
                refine j_top (bI (inI (bt (t e)) 48 57)) rfl ?_
                refine j_top (bI (inI (t e) 48 57)) (congrArg bI (bt_in hT _ (by decide) (by decide))) ?_
                refine j_ifB_eq 202 cx 285 dX2_step_202 (by decide) (fun zc5 => ?_) (fun zc5 => ?_)
                · skip
                  have hr9 : rdT t n p = (20, s, e, v) := rd_num hb (by omega) zc2 zc3 (hE.trans (sk_f (isb_f zc5))) (hV.trans (nv_f (isb_f zc5)))
                  have hk9 : cT (rK (rdT t n p)) = 2 := by rw [hr9] <;> rfl
                  have hb9 : rB (rdT t n p) = s := by rw [hr9]
                  have ha9 : rA (rdT t n p) = e := by rw [hr9]
                  exact fin (nI (min 10000 v)) _ _ _ dX2_step_285 (by rw [hk9, hb9, ha9] <;> rfl) (fun _ => by rw [hr9])
                · skip
                  have hdz := zc5
                  refine j_aload_n 205 cx 0 dX2_step_205 rfl ?_
                  refine j_sipush 206 cx 10000 dX2_step_206 (by decide) ?_
                  refine j_bipush 209 cx 10 dX2_step_209 (by decide) ?_
                  refine j_aload_n 211 cx 0 dX2_step_211 rfl ?_
                  refine j_get 212 cx 0 4 (T := TX2) (v := .int (nI (min 10000 v))) (fun _ h => List.mem_cons_of_mem _ (List.mem_append_left _ (List.mem_append_right _ (h)))) (List.mem_of_getElem? (i := 6) rfl) (ci := 1) rfl (by decide) rfl rfl rfl dX2_step_212 ?_
                  refine j_imul 215 cx dX2_step_215 ?_
                  refine j_top (nI (10 * (min 10000 v))) (pk_mul 10 (min 10000 v)) ?_
                  refine j_aload_n 216 cx 0 dX2_step_216 rfl ?_
                  refine j_get 217 cx 0 0 (T := TX2) (v := .ref ((ax 4))) (fun _ h => List.mem_cons_of_mem _ (List.mem_append_left _ (List.mem_append_right _ (h)))) (List.mem_of_getElem? (i := 3) rfl) (ci := 1) rfl (by decide) rfl rfl rfl dX2_step_217 ?_
                  refine j_aload_n 220 cx 0 dX2_step_220 rfl ?_
                  refine j_get 221 cx 0 3 (T := TX2) (v := .int (nI e)) (fun _ h => List.mem_cons_of_mem _ (List.mem_append_left _ (List.mem_append_right _ (h)))) (List.mem_of_getElem? (i := 1) rfl) (ci := 1) rfl (by decide) rfl rfl rfl dX2_step_221 ?_
                  refine j_callV_i 224 cx 1 [1, 2] [.int (nI e)] (fun _ => wRD ax 2 (nI s) (nI e) (nI (min 10000 v)) ++ (wTP ax (nI n) ++ [((ax 8), .inl (gB G, 120, .inl (fun k => bt (t k))))])) (c_X4_at (kl K) G ax t n e (by omega) hn) gX2_step_X4_at rfl rfl rfl ⟨rfl, by decide, by decide, rfl⟩ ⟨Nat.le_of_ble_eq_true rfl, Nat.le_of_ble_eq_true rfl⟩ ⟨Nat.zero_le _, Nat.zero_le _⟩ rfl (by decide) (ci := 3) 0 rfl rfl rfl rfl rfl (Nat.le_of_ble_eq_true rfl) dX2_step_224 (fun _ => rfl) (fun zu9 zk9 => ?_)
                  refine j_top (bt (t e)) rfl ?_
                  refine j_bipush 227 cx 48 dX2_step_227 (by decide) ?_
                  refine j_isub 229 cx dX2_step_229 ?_
                  refine j_top (nI (pN (t e) - 48)) (dg_sub hT hdz) ?_
                  refine j_iadd 230 cx dX2_step_230 ?_
                  refine j_top (nI (10 * (min 10000 v) + (pN (t e) - 48))) (nI_add _ _) ?_
                  refine j_min 231 cx (List.mem_of_getElem? (i := 7) rfl) (List.mem_of_getElem? (i := 8) rfl) (List.mem_of_getElem? (i := 9) rfl) (List.mem_of_getElem? (i := 10) rfl) (by decide) (Nat.le_of_ble_eq_true rfl) (Nat.zero_le _) (Nat.zero_le _) dX2_step_231 ?_
                  refine j_top (mnI 10000 (nI (10 * (min 10000 v) + (pN (t e) - 48)))) rfl ?_
                  refine j_top (nI (min 10000 (dgt v (t e)))) (mn_dg (dg_lt hT hdz)) ?_
                  refine j_put 234 cx 0 4 (wRD ax 2 (nI s) (nI e) (nI (min 10000 (dgt v (t e)))) ++ (wTP ax (nI n) ++ [((ax 8), .inl (gB G, 120, .inl (fun k => bt (t k))))])) (T := TX2) (ty0 := tyX2) (fun _ h => List.mem_cons_of_mem _ (List.mem_append_left _ (List.mem_append_right _ (h)))) (List.mem_of_getElem? (i := 6) rfl) (ci := 1) rfl (by decide) rfl tyX2_ok nmX2 rfl rfl rfl rfl (Nat.le_of_ble_eq_true rfl) rfl dX2_step_234 ?_
                  refine j_aload_n 237 cx 0 dX2_step_237 rfl ?_
                  refine j_dup 238 cx dX2_step_238 rfl ?_
                  refine j_get 239 cx 0 3 (T := TX2) (v := .int (nI e)) (fun _ h => List.mem_cons_of_mem _ (List.mem_append_left _ (List.mem_append_right _ (h)))) (List.mem_of_getElem? (i := 1) rfl) (ci := 1) rfl (by decide) rfl rfl rfl dX2_step_239 ?_
                  refine j_iconst 242 cx 1 dX2_step_242 (by decide) ?_
                  refine j_iadd 243 cx dX2_step_243 ?_
                  refine j_top (nI (e + 1)) (nI_add e 1) ?_
                  refine j_put 244 cx 0 3 (wRD ax 2 (nI s) (nI (e + 1)) (nI (min 10000 (dgt v (t e)))) ++ (wTP ax (nI n) ++ [((ax 8), .inl (gB G, 120, .inl (fun k => bt (t k))))])) (T := TX2) (ty0 := tyX2) (fun _ h => List.mem_cons_of_mem _ (List.mem_append_left _ (List.mem_append_right _ (h)))) (List.mem_of_getElem? (i := 1) rfl) (ci := 1) rfl (by decide) rfl tyX2_ok nmX2 rfl rfl rfl rfl (Nat.le_of_ble_eq_true rfl) rfl dX2_step_244 ?_
                  refine j_goto 247 cx 174 dX2_step_247 (by decide) ?_
                  exact ih174 (e + 1) (dgt v (t e)) (by omega) (by omega) (hE.trans (sk_t (isb_t (by omega) hdz))) (hV.trans (nv_t (isb_t (by omega) hdz))) (dgt_le (dg_lt hT hdz) hv)
            exact L174 (n - s) s 0 (by omega) (Nat.le_refl _) rfl rfl (by omega)
        · skip
          refine j_aload_n 98 cx 0 dX2_step_98 rfl ?_
          refine j_iconst 99 cx 1 dX2_step_99 (by decide) ?_
          refine j_put 100 cx 0 1 (wRD ax 1 (nI s) (nI s) nu ++ (wTP ax (nI n) ++ [((ax 8), .inl (gB G, 120, .inl (fun k => bt (t k))))])) (T := TX2) (ty0 := tyX2) (fun _ h => List.mem_cons_of_mem _ (List.mem_append_left _ (List.mem_append_right _ (h)))) (List.mem_of_getElem? (i := 5) rfl) (ci := 1) rfl (by decide) rfl tyX2_ok nmX2 rfl rfl rfl rfl (Nat.le_of_ble_eq_true rfl) rfl dX2_step_100 ?_
          have L103 : ∀ d : Nat, ∀ (e : Nat), (e + d = n) → (s ≤ e) → (sk t n 97 122 s = sk t n 97 122 e) → JJ G K 0 0 (wRD ax 1 (nI s) (nI e) nu ++ (wTP ax (nI n) ++ [((ax 8), .inl (gB G, 120, .inl (fun k => bt (t k))))])) [(0, .ref ((ax 5)))] 103 [] := by
            intro d
            induction d with
            | zero =>
              intro e he he2 hE
              refine j_aload_n 103 cx 0 dX2_step_103 rfl ?_
              refine j_get 104 cx 0 3 (T := TX2) (v := .int (nI e)) (fun _ h => List.mem_cons_of_mem _ (List.mem_append_left _ (List.mem_append_right _ (h)))) (List.mem_of_getElem? (i := 1) rfl) (ci := 1) rfl (by decide) rfl rfl rfl dX2_step_104 ?_
              refine j_aload_n 107 cx 0 dX2_step_107 rfl ?_
              refine j_get 108 cx 0 0 (T := TX2) (v := .ref ((ax 4))) (fun _ h => List.mem_cons_of_mem _ (List.mem_append_left _ (List.mem_append_right _ (h)))) (List.mem_of_getElem? (i := 3) rfl) (ci := 1) rfl (by decide) rfl rfl rfl dX2_step_108 ?_
              refine j_get 111 cx 1 1 (T := TX4) (v := .int (nI n)) (fun _ h => List.mem_cons_of_mem _ (List.mem_append_right _ (h))) (List.mem_of_getElem? (i := 4) rfl) (ci := 3) rfl (by decide) rfl rfl rfl dX2_step_111 ?_
              refine j_icmp_ge_T 114 cx 285 dX2_step_114 (by decide) (nI_le (by omega) (by omega)) ?_
              have hr9 : rdT t n p = (wI t s (e - s), s, e, 0) := rd_word hb (by omega) zc2 (hE.trans (sk_f (isb_n (by omega))))
              have hk9 : cT (rK (rdT t n p)) = 1 := by rw [hr9] <;> exact cT_w _ _ _
              have hb9 : rB (rdT t n p) = s := by rw [hr9]
              have ha9 : rA (rdT t n p) = e := by rw [hr9]
              exact fin nu _ _ _ dX2_step_285 (by rw [hk9, hb9, ha9] <;> rfl) (fun q => by rw [hr9] at q; exact absurd q (wI_20 _ _ _))
            | succ d ih103 =>
              intro e he he2 hE
              refine j_aload_n 103 cx 0 dX2_step_103 rfl ?_
              refine j_get 104 cx 0 3 (T := TX2) (v := .int (nI e)) (fun _ h => List.mem_cons_of_mem _ (List.mem_append_left _ (List.mem_append_right _ (h)))) (List.mem_of_getElem? (i := 1) rfl) (ci := 1) rfl (by decide) rfl rfl rfl dX2_step_104 ?_
              refine j_aload_n 107 cx 0 dX2_step_107 rfl ?_
              refine j_get 108 cx 0 0 (T := TX2) (v := .ref ((ax 4))) (fun _ h => List.mem_cons_of_mem _ (List.mem_append_left _ (List.mem_append_right _ (h)))) (List.mem_of_getElem? (i := 3) rfl) (ci := 1) rfl (by decide) rfl rfl rfl dX2_step_108 ?_
              refine j_get 111 cx 1 1 (T := TX4) (v := .int (nI n)) (fun _ h => List.mem_cons_of_mem _ (List.mem_append_right _ (h))) (List.mem_of_getElem? (i := 4) rfl) (ci := 3) rfl (by decide) rfl rfl rfl dX2_step_111 ?_
              refine j_icmp_ge_F 114 cx 285 dX2_step_114 (by decide) (nI_ge (by omega) (by omega)) ?_
              refine j_aload_n 117 cx 0 dX2_step_117 rfl ?_
              refine j_get 118 cx 0 0 (T := TX2) (v := .ref ((ax 4))) (fun _ h => List.mem_cons_of_mem _ (List.mem_append_left _ (List.mem_append_right _ (h)))) (List.mem_of_getElem? (i := 3) rfl) (ci := 1) rfl (by decide) rfl rfl rfl dX2_step_118 ?_
              refine j_aload_n 121 cx 0 dX2_step_121 rfl ?_
              refine j_get 122 cx 0 3 (T := TX2) (v := .int (nI e)) (fun _ h => List.mem_cons_of_mem _ (List.mem_append_left _ (List.mem_append_right _ (h)))) (List.mem_of_getElem? (i := 1) rfl) (ci := 1) rfl (by decide) rfl rfl rfl dX2_step_122 ?_
              refine j_callV_i 125 cx 1 [1, 2] [.int (nI e)] (fun _ => wRD ax 1 (nI s) (nI e) nu ++ (wTP ax (nI n) ++ [((ax 8), .inl (gB G, 120, .inl (fun k => bt (t k))))])) (c_X4_at (kl K) G ax t n e (by omega) hn) gX2_step_X4_at rfl rfl rfl ⟨rfl, by decide, by decide, rfl⟩ ⟨Nat.le_of_ble_eq_true rfl, Nat.le_of_ble_eq_true rfl⟩ ⟨Nat.zero_le _, Nat.zero_le _⟩ rfl (by decide) (ci := 3) 0 rfl rfl rfl rfl rfl (Nat.le_of_ble_eq_true rfl) dX2_step_125 (fun _ => rfl) (fun zu10 zk10 => ?_)
              refine j_top (bt (t e)) rfl ?_
              refine j_callS_i 128 cx 1 [] [.int (bt (t e))] (fun _ => wRD ax 1 (nI s) (nI e) nu ++ (wTP ax (nI n) ++ [((ax 8), .inl (gB G, 120, .inl (fun k => bt (t k))))])) (c_X2_isLetter (kl K) G (bt (t e))) gX2_step_X2_isLetter rfl rfl rfl ⟨by decide, by decide, rfl⟩ ⟨Nat.le_of_ble_eq_true rfl, Nat.le_of_ble_eq_true rfl⟩ ⟨Nat.zero_le _, Nat.zero_le _⟩ rfl (by decide) rfl rfl (Nat.le_of_ble_eq_true rfl) dX2_step_128 (fun _ => rfl) (fun zu11 zk11 => ?_)
              refine j_top (bI (inI (bt (t e)) 97 122)) rfl ?_
              refine j_top (bI (inI (t e) 97 122)) (congrArg bI (bt_in hT _ (by decide) (by decide))) ?_
              refine j_ifB_eq 131 cx 285 dX2_step_131 (by decide) (fun zc6 => ?_) (fun zc6 => ?_)
              · skip
                have hr9 : rdT t n p = (wI t s (e - s), s, e, 0) := rd_word hb (by omega) zc2 (hE.trans (sk_f (isb_f zc6)))
                have hk9 : cT (rK (rdT t n p)) = 1 := by rw [hr9] <;> exact cT_w _ _ _
                have hb9 : rB (rdT t n p) = s := by rw [hr9]
                have ha9 : rA (rdT t n p) = e := by rw [hr9]
                exact fin nu _ _ _ dX2_step_285 (by rw [hk9, hb9, ha9] <;> rfl) (fun q => by rw [hr9] at q; exact absurd q (wI_20 _ _ _))
              · skip
                refine j_aload_n 134 cx 0 dX2_step_134 rfl ?_
                refine j_dup 135 cx dX2_step_135 rfl ?_
                refine j_get 136 cx 0 3 (T := TX2) (v := .int (nI e)) (fun _ h => List.mem_cons_of_mem _ (List.mem_append_left _ (List.mem_append_right _ (h)))) (List.mem_of_getElem? (i := 1) rfl) (ci := 1) rfl (by decide) rfl rfl rfl dX2_step_136 ?_
                refine j_iconst 139 cx 1 dX2_step_139 (by decide) ?_
                refine j_iadd 140 cx dX2_step_140 ?_
                refine j_top (nI (e + 1)) (nI_add e 1) ?_
                refine j_put 141 cx 0 3 (wRD ax 1 (nI s) (nI (e + 1)) nu ++ (wTP ax (nI n) ++ [((ax 8), .inl (gB G, 120, .inl (fun k => bt (t k))))])) (T := TX2) (ty0 := tyX2) (fun _ h => List.mem_cons_of_mem _ (List.mem_append_left _ (List.mem_append_right _ (h)))) (List.mem_of_getElem? (i := 1) rfl) (ci := 1) rfl (by decide) rfl tyX2_ok nmX2 rfl rfl rfl rfl (Nat.le_of_ble_eq_true rfl) rfl dX2_step_141 ?_
                refine j_goto 144 cx 103 dX2_step_144 (by decide) ?_
                exact ih103 (e + 1) (by omega) (by omega) (hE.trans (sk_t (isb_t (by omega) zc6)))
          exact L103 (n - s) s (by omega) (Nat.le_refl _) rfl
      · skip
        refine j_aload_n 38 cx 0 dX2_step_38 rfl ?_
        refine j_dup 39 cx dX2_step_39 rfl ?_
        refine j_get 40 cx 0 2 (T := TX2) (v := .int (nI s)) (fun _ h => List.mem_cons_of_mem _ (List.mem_append_left _ (List.mem_append_right _ (h)))) (List.mem_of_getElem? (i := 2) rfl) (ci := 1) rfl (by decide) rfl rfl rfl dX2_step_40 ?_
        refine j_iconst 43 cx 1 dX2_step_43 (by decide) ?_
        refine j_iadd 44 cx dX2_step_44 ?_
        refine j_top (nI (s + 1)) (nI_add s 1) ?_
        refine j_put 45 cx 0 2 (wRD ax tk (nI (s + 1)) (nI p) nu ++ (wTP ax (nI n) ++ [((ax 8), .inl (gB G, 120, .inl (fun k => bt (t k))))])) (T := TX2) (ty0 := tyX2) (fun _ h => List.mem_cons_of_mem _ (List.mem_append_left _ (List.mem_append_right _ (h)))) (List.mem_of_getElem? (i := 2) rfl) (ci := 1) rfl (by decide) rfl tyX2_ok nmX2 rfl rfl rfl rfl (Nat.le_of_ble_eq_true rfl) rfl dX2_step_45 ?_
        refine j_goto 48 cx 8 dX2_step_48 (by decide) ?_
        exact ih8 (s + 1) (by omega) (by omega) (hS.trans (sk_t (isb_t (by omega) (in_one.mpr ((bt_eq hT s (by decide) (by decide)).mp zc1)))))
  exact L8 (n - p) p (by omega) (Nat.le_refl _) rfl
set_option maxRecDepth 100000 in
set_option maxHeartbeats 4000000 in
theorem c_X2_isAtHand (l : Launch) (G : pG) (ax : Nat → Nat) (t : TF) (n : Nat) (r : RT) (nu : Int32) (hT : okT t) (hn : n ≤ 120) (hr : RW t n r) (w : Nat) (hw : w < 11) : KI l G yX2_isAtHand wsX2_isAtHand ({ frames := 5, cells := 0, slots := 0, locals := 106 } : Room) [.ref ((ax 5)), .ref ((gK G w))] (wRD ax (nI (cT (rK r))) (nI (rB r)) (nI (rA r)) nu ++ (wTP ax (nI n) ++ [((ax 8), .inl (gB G, 120, .inl (fun k => bt (t k))))])) (S := Unit) (fun _ => True) (fun u => bI (decide (rK r = w))) (fun u => wRD ax (nI (cT (rK r))) (nI (rB r)) (nI (rA r)) nu ++ (wTP ax (nI n) ++ [((ax 8), .inl (gB G, 120, .inl (fun k => bt (t k))))])) := by
  have hw8 := wLen_8 w hw
  have hra := hr.an
  have hrb := hr.ba
  refine ki_of [(0, .ref ((ax 5))), (1, .ref ((gK G w)))] (own := RX2) (cc := cX2_isAtHand) (nL := 3) (by decide +kernel) rfl rfl (Nat.le_of_ble_eq_true rfl) rfl (fun _ => rfl) (fun K cx fin => ?_)
  refine j_aload_n 0 cx 0 dX2_isAtHand_0 rfl ?_
  refine j_get 1 cx 0 1 (T := TX2) (v := .int (nI (cT (rK r)))) (fun _ h => List.mem_cons_of_mem _ (List.mem_append_left _ (List.mem_append_right _ (h)))) (List.mem_of_getElem? (i := 1) rfl) (ci := 1) rfl (by decide) rfl rfl rfl dX2_isAtHand_1 ?_
  refine j_iconst 4 cx 1 dX2_isAtHand_4 (by decide) ?_
  refine j_icmp_ne 5 cx 24 dX2_isAtHand_5 (by decide) (fun zc1 => ?_) (fun zc1 => ?_)
  · skip
    refine j_iconst 24 cx 0 dX2_isAtHand_24 (by decide) ?_
    exact fin () _ _ _ _ dX2_isAtHand_25 rfl (by rw [cT_1 zc1 hw]; rfl) rfl trivial
  · skip
    refine j_aload_n 8 cx 0 dX2_isAtHand_8 rfl ?_
    refine j_get 9 cx 0 3 (T := TX2) (v := .int (nI (rA r))) (fun _ h => List.mem_cons_of_mem _ (List.mem_append_left _ (List.mem_append_right _ (h)))) (List.mem_of_getElem? (i := 2) rfl) (ci := 1) rfl (by decide) rfl rfl rfl dX2_isAtHand_9 ?_
    refine j_aload_n 12 cx 0 dX2_isAtHand_12 rfl ?_
    refine j_get 13 cx 0 2 (T := TX2) (v := .int (nI (rB r))) (fun _ h => List.mem_cons_of_mem _ (List.mem_append_left _ (List.mem_append_right _ (h)))) (List.mem_of_getElem? (i := 3) rfl) (ci := 1) rfl (by decide) rfl rfl rfl dX2_isAtHand_13 ?_
    refine j_isub 16 cx dX2_isAtHand_16 ?_
    refine j_top (nI (rA r - rB r)) (pk_sub hr.ba) ?_
    refine j_aload_n 17 cx 1 dX2_isAtHand_17 rfl ?_
    refine j_callO_i 18 cx 0 [] [] (fun _ => wRD ax (nI (cT (rK r))) (nI (rB r)) (nI (rA r)) nu ++ (wTP ax (nI n) ++ [((ax 8), .inl (gB G, 120, .inl (fun k => bt (t k))))])) (c_J0_length (kl K) G w hw) gX2_isAtHand_J0_length_8abf5 rfl rfl rfl ⟨rfl, by decide, by decide, rfl⟩ ⟨Nat.le_of_ble_eq_true rfl, Nat.le_of_ble_eq_true rfl⟩ ⟨Nat.zero_le _, Nat.zero_le _⟩ rfl (by decide) w hw rfl rfl rfl rfl (Nat.le_of_ble_eq_true rfl) dX2_isAtHand_18 (fun _ => rfl) (fun zu1 zk1 => ?_)
    refine j_top (nI (wLen w)) rfl ?_
    refine j_icmp_eq 21 cx 26 dX2_isAtHand_21 (by decide) (fun zc2 => ?_) (fun zc2 => ?_)
    · skip
      have hl9 : rA r - rB r = wLen w := (nI_eq (by omega) (by omega)).mp zc2
      refine j_iconst 26 cx 0 dX2_isAtHand_26 (by decide) ?_
      refine j_istore_n 27 cx [(2, .int 0), (0, .ref ((ax 5))), (1, .ref ((gK G w)))] dX2_isAtHand_27 (by decide) rfl ?_
      have L28 : ∀ d : Nat, ∀ (i : Nat), (i + d = wLen w) → (∀ j, j < i → t (rB r + j) = ltr w j) → JJ G K 0 0 (wRD ax (nI (cT (rK r))) (nI (rB r)) (nI (rA r)) nu ++ (wTP ax (nI n) ++ [((ax 8), .inl (gB G, 120, .inl (fun k => bt (t k))))])) [(2, .int (nI i)), (1, .ref ((gK G w))), (0, .ref ((ax 5)))] 28 [] := by
        intro d
        induction d with
        | zero =>
          intro i hi hE
          refine j_iload_n 28 cx 0 dX2_isAtHand_28 rfl ?_
          refine j_aload_n 29 cx 1 dX2_isAtHand_29 rfl ?_
          refine j_callO_i 30 cx 0 [] [] (fun _ => wRD ax (nI (cT (rK r))) (nI (rB r)) (nI (rA r)) nu ++ (wTP ax (nI n) ++ [((ax 8), .inl (gB G, 120, .inl (fun k => bt (t k))))])) (c_J0_length (kl K) G w hw) gX2_isAtHand_J0_length_8abf5 rfl rfl rfl ⟨rfl, by decide, by decide, rfl⟩ ⟨Nat.le_of_ble_eq_true rfl, Nat.le_of_ble_eq_true rfl⟩ ⟨Nat.zero_le _, Nat.zero_le _⟩ rfl (by decide) w hw rfl rfl rfl rfl (Nat.le_of_ble_eq_true rfl) dX2_isAtHand_30 (fun _ => rfl) (fun zu2 zk2 => ?_)
          refine j_top (nI (wLen w)) rfl ?_
          refine j_icmp_ge_T 33 cx 65 dX2_isAtHand_33 (by decide) (nI_le (by omega) (by omega)) ?_
          refine j_iconst 65 cx 1 dX2_isAtHand_65 (by decide) ?_
          exact fin () _ _ _ _ dX2_isAtHand_66 rfl (by rw [ah_yes hr zc1 hw (wEq_y hl9 (fun j hj => hE j (by omega)))]; rfl) rfl trivial
        | succ d ih28 =>
          intro i hi hE
          refine j_iload_n 28 cx 0 dX2_isAtHand_28 rfl ?_
          refine j_aload_n 29 cx 1 dX2_isAtHand_29 rfl ?_
          refine j_callO_i 30 cx 0 [] [] (fun _ => wRD ax (nI (cT (rK r))) (nI (rB r)) (nI (rA r)) nu ++ (wTP ax (nI n) ++ [((ax 8), .inl (gB G, 120, .inl (fun k => bt (t k))))])) (c_J0_length (kl K) G w hw) gX2_isAtHand_J0_length_8abf5 rfl rfl rfl ⟨rfl, by decide, by decide, rfl⟩ ⟨Nat.le_of_ble_eq_true rfl, Nat.le_of_ble_eq_true rfl⟩ ⟨Nat.zero_le _, Nat.zero_le _⟩ rfl (by decide) w hw rfl rfl rfl rfl (Nat.le_of_ble_eq_true rfl) dX2_isAtHand_30 (fun _ => rfl) (fun zu3 zk3 => ?_)
          refine j_top (nI (wLen w)) rfl ?_
          refine j_icmp_ge_F 33 cx 65 dX2_isAtHand_33 (by decide) (nI_ge (by omega) (by omega)) ?_
          refine j_aload_n 36 cx 2 dX2_isAtHand_36 rfl ?_
          refine j_get 37 cx 0 0 (T := TX2) (v := .ref ((ax 4))) (fun _ h => List.mem_cons_of_mem _ (List.mem_append_left _ (List.mem_append_right _ (h)))) (List.mem_of_getElem? (i := 4) rfl) (ci := 1) rfl (by decide) rfl rfl rfl dX2_isAtHand_37 ?_
          refine j_aload_n 40 cx 2 dX2_isAtHand_40 rfl ?_
          refine j_get 41 cx 0 2 (T := TX2) (v := .int (nI (rB r))) (fun _ h => List.mem_cons_of_mem _ (List.mem_append_left _ (List.mem_append_right _ (h)))) (List.mem_of_getElem? (i := 3) rfl) (ci := 1) rfl (by decide) rfl rfl rfl dX2_isAtHand_41 ?_
          refine j_iload_n 44 cx 0 dX2_isAtHand_44 rfl ?_
          refine j_iadd 45 cx dX2_isAtHand_45 ?_
          refine j_top (nI (rB r + i)) (nI_add (rB r) i) ?_
          refine j_callV_i 46 cx 1 [1, 2] [.int (nI (rB r + i))] (fun _ => wRD ax (nI (cT (rK r))) (nI (rB r)) (nI (rA r)) nu ++ (wTP ax (nI n) ++ [((ax 8), .inl (gB G, 120, .inl (fun k => bt (t k))))])) (c_X4_at (kl K) G ax t n (rB r + i) (by omega) hn) gX2_isAtHand_X4_at rfl rfl rfl ⟨rfl, by decide, by decide, rfl⟩ ⟨Nat.le_of_ble_eq_true rfl, Nat.le_of_ble_eq_true rfl⟩ ⟨Nat.zero_le _, Nat.zero_le _⟩ rfl (by decide) (ci := 3) 0 rfl rfl rfl rfl rfl (Nat.le_of_ble_eq_true rfl) dX2_isAtHand_46 (fun _ => rfl) (fun zu4 zk4 => ?_)
          refine j_top (bt (t (rB r + i))) rfl ?_
          refine j_aload_n 49 cx 1 dX2_isAtHand_49 rfl ?_
          refine j_iload_n 50 cx 0 dX2_isAtHand_50 rfl ?_
          refine j_callO_i 51 cx 1 [] [.int (nI i)] (fun _ => wRD ax (nI (cT (rK r))) (nI (rB r)) (nI (rA r)) nu ++ (wTP ax (nI n) ++ [((ax 8), .inl (gB G, 120, .inl (fun k => bt (t k))))])) (c_J0_charAt (kl K) G w i hw (by omega)) gX2_isAtHand_J0_charAt_5068e rfl rfl rfl ⟨rfl, by decide, by decide, rfl⟩ ⟨Nat.le_of_ble_eq_true rfl, Nat.le_of_ble_eq_true rfl⟩ ⟨Nat.zero_le _, Nat.zero_le _⟩ rfl (by decide) w hw rfl rfl rfl rfl (Nat.le_of_ble_eq_true rfl) dX2_isAtHand_51 (fun _ => rfl) (fun zu5 zk5 => ?_)
          refine j_top (ltr w i) rfl ?_
          refine j_icmp_eq 54 cx 59 dX2_isAtHand_54 (by decide) (fun zc3 => ?_) (fun zc3 => ?_)
          · skip
            refine j_iinc 59 cx [(2, .int (nI (i + 1))), (1, .ref ((gK G w))), (0, .ref ((ax 5)))] 0 (nI (i + 1)) dX2_isAtHand_59 rfl (iinc1 i) (by decide) rfl ?_
            refine j_goto 62 cx 28 dX2_isAtHand_62 (by decide) ?_
            exact ih28 (i + 1) (by omega) (all_s hE ((bt_eq hT _ (ltr_b w hw i (by omega)).1 (ltr_b w hw i (by omega)).2).mp zc3))
          · skip
            refine j_iconst 57 cx 0 dX2_isAtHand_57 (by decide) ?_
            exact fin () _ _ _ _ dX2_isAtHand_58 rfl (by rw [ah_no hr zc1 hw (wEq_l (i := i) (by omega) (fun q => zc3 ((bt_eq hT _ (ltr_b w hw i (by omega)).1 (ltr_b w hw i (by omega)).2).mpr q)))]; rfl) rfl trivial
      refine j_lv [0, 2, 1] rfl ?_
      exact L28 (wLen w) 0 (by omega) (fun j hj => absurd hj (Nat.not_lt_zero j))
    · skip
      refine j_iconst 24 cx 0 dX2_isAtHand_24 (by decide) ?_
      exact fin () _ _ _ _ dX2_isAtHand_25 rfl (by rw [ah_no hr zc1 hw (wEq_n (fun q => zc2 (congrArg nI q)))]; rfl) rfl trivial
set_option maxRecDepth 100000 in
set_option maxHeartbeats 4000000 in
theorem c_X2_kindAtHand (l : Launch) (G : pG) (ax : Nat → Nat) (t : TF) (n : Nat) (r : RT) (nu : Int32) (hT : okT t) (hn : n ≤ 120) (hr : RW t n r)  : KI l G yX2_kindAtHand wsX2_kindAtHand ({ frames := 6, cells := 0, slots := 0, locals := 128 } : Room) [.ref ((ax 5))] (wRD ax (nI (cT (rK r))) (nI (rB r)) (nI (rA r)) nu ++ (wTP ax (nI n) ++ [((ax 8), .inl (gB G, 120, .inl (fun k => bt (t k))))])) (S := Unit) (fun _ => True) (fun u => kaF (rK r)) (fun u => wRD ax (nI (cT (rK r))) (nI (rB r)) (nI (rA r)) nu ++ (wTP ax (nI n) ++ [((ax 8), .inl (gB G, 120, .inl (fun k => bt (t k))))])) := by
  refine ki_of [(0, .ref ((ax 5)))] (own := RX2) (cc := cX2_kindAtHand) (nL := 1) (by decide +kernel) rfl rfl (Nat.le_of_ble_eq_true rfl) rfl (fun _ => rfl) (fun K cx fin => ?_)
  refine j_aload_n 0 cx 0 dX2_kindAtHand_0 rfl ?_
  refine j_ldcS 1 cx (index := 81) (cx.e.2.2.2.2.2 0 (by decide)) dX2_kindAtHand_1 ?_
  refine j_callV_i 3 cx 1 [0, 1, 2] [.ref ((gK G 0))] (fun _ => wRD ax (nI (cT (rK r))) (nI (rB r)) (nI (rA r)) nu ++ (wTP ax (nI n) ++ [((ax 8), .inl (gB G, 120, .inl (fun k => bt (t k))))])) (c_X2_isAtHand (kl K) G ax t n r nu hT hn hr 0 (by decide)) gX2_kindAtHand_X2_isAtHand rfl rfl rfl ⟨rfl, by decide, by decide, rfl⟩ ⟨Nat.le_of_ble_eq_true rfl, Nat.le_of_ble_eq_true rfl⟩ ⟨Nat.zero_le _, Nat.zero_le _⟩ rfl (by decide) (ci := 1) 0 rfl rfl rfl rfl rfl (Nat.le_of_ble_eq_true rfl) dX2_kindAtHand_3 (fun _ => rfl) (fun zu1 zk1 => ?_)
  refine j_top (bI (decide (rK r = 0))) rfl ?_
  refine j_ifB_eq 6 cx 11 dX2_kindAtHand_6 (by decide) (fun zc1 => ?_) (fun zc1 => ?_)
  · skip
    refine j_aload_n 11 cx 0 dX2_kindAtHand_11 rfl ?_
    refine j_ldcS 12 cx (index := 85) (cx.e.2.2.2.2.2 1 (by decide)) dX2_kindAtHand_12 ?_
    refine j_callV_i 14 cx 1 [0, 1, 2] [.ref ((gK G 1))] (fun _ => wRD ax (nI (cT (rK r))) (nI (rB r)) (nI (rA r)) nu ++ (wTP ax (nI n) ++ [((ax 8), .inl (gB G, 120, .inl (fun k => bt (t k))))])) (c_X2_isAtHand (kl K) G ax t n r nu hT hn hr 1 (by decide)) gX2_kindAtHand_X2_isAtHand rfl rfl rfl ⟨rfl, by decide, by decide, rfl⟩ ⟨Nat.le_of_ble_eq_true rfl, Nat.le_of_ble_eq_true rfl⟩ ⟨Nat.zero_le _, Nat.zero_le _⟩ rfl (by decide) (ci := 1) 0 rfl rfl rfl rfl rfl (Nat.le_of_ble_eq_true rfl) dX2_kindAtHand_14 (fun _ => rfl) (fun zu2 zk2 => ?_)
    refine j_top (bI (decide (rK r = 1))) rfl ?_
    refine j_ifB_eq 17 cx 22 dX2_kindAtHand_17 (by decide) (fun zc2 => ?_) (fun zc2 => ?_)
    · skip
      refine j_aload_n 22 cx 0 dX2_kindAtHand_22 rfl ?_
      refine j_ldcS 23 cx (index := 87) (cx.e.2.2.2.2.2 2 (by decide)) dX2_kindAtHand_23 ?_
      refine j_callV_i 25 cx 1 [0, 1, 2] [.ref ((gK G 2))] (fun _ => wRD ax (nI (cT (rK r))) (nI (rB r)) (nI (rA r)) nu ++ (wTP ax (nI n) ++ [((ax 8), .inl (gB G, 120, .inl (fun k => bt (t k))))])) (c_X2_isAtHand (kl K) G ax t n r nu hT hn hr 2 (by decide)) gX2_kindAtHand_X2_isAtHand rfl rfl rfl ⟨rfl, by decide, by decide, rfl⟩ ⟨Nat.le_of_ble_eq_true rfl, Nat.le_of_ble_eq_true rfl⟩ ⟨Nat.zero_le _, Nat.zero_le _⟩ rfl (by decide) (ci := 1) 0 rfl rfl rfl rfl rfl (Nat.le_of_ble_eq_true rfl) dX2_kindAtHand_25 (fun _ => rfl) (fun zu3 zk3 => ?_)
      refine j_top (bI (decide (rK r = 2))) rfl ?_
      refine j_ifB_eq 28 cx 33 dX2_kindAtHand_28 (by decide) (fun zc3 => ?_) (fun zc3 => ?_)
      · skip
        refine j_aload_n 33 cx 0 dX2_kindAtHand_33 rfl ?_
        refine j_ldcS 34 cx (index := 89) (cx.e.2.2.2.2.2 3 (by decide)) dX2_kindAtHand_34 ?_
        refine j_callV_i 36 cx 1 [0, 1, 2] [.ref ((gK G 3))] (fun _ => wRD ax (nI (cT (rK r))) (nI (rB r)) (nI (rA r)) nu ++ (wTP ax (nI n) ++ [((ax 8), .inl (gB G, 120, .inl (fun k => bt (t k))))])) (c_X2_isAtHand (kl K) G ax t n r nu hT hn hr 3 (by decide)) gX2_kindAtHand_X2_isAtHand rfl rfl rfl ⟨rfl, by decide, by decide, rfl⟩ ⟨Nat.le_of_ble_eq_true rfl, Nat.le_of_ble_eq_true rfl⟩ ⟨Nat.zero_le _, Nat.zero_le _⟩ rfl (by decide) (ci := 1) 0 rfl rfl rfl rfl rfl (Nat.le_of_ble_eq_true rfl) dX2_kindAtHand_36 (fun _ => rfl) (fun zu4 zk4 => ?_)
        refine j_top (bI (decide (rK r = 3))) rfl ?_
        refine j_ifB_eq 39 cx 44 dX2_kindAtHand_39 (by decide) (fun zc4 => ?_) (fun zc4 => ?_)
        · skip
          refine j_aload_n 44 cx 0 dX2_kindAtHand_44 rfl ?_
          refine j_ldcS 45 cx (index := 91) (cx.e.2.2.2.2.2 4 (by decide)) dX2_kindAtHand_45 ?_
          refine j_callV_i 47 cx 1 [0, 1, 2] [.ref ((gK G 4))] (fun _ => wRD ax (nI (cT (rK r))) (nI (rB r)) (nI (rA r)) nu ++ (wTP ax (nI n) ++ [((ax 8), .inl (gB G, 120, .inl (fun k => bt (t k))))])) (c_X2_isAtHand (kl K) G ax t n r nu hT hn hr 4 (by decide)) gX2_kindAtHand_X2_isAtHand rfl rfl rfl ⟨rfl, by decide, by decide, rfl⟩ ⟨Nat.le_of_ble_eq_true rfl, Nat.le_of_ble_eq_true rfl⟩ ⟨Nat.zero_le _, Nat.zero_le _⟩ rfl (by decide) (ci := 1) 0 rfl rfl rfl rfl rfl (Nat.le_of_ble_eq_true rfl) dX2_kindAtHand_47 (fun _ => rfl) (fun zu5 zk5 => ?_)
          refine j_top (bI (decide (rK r = 4))) rfl ?_
          refine j_ifB_eq 50 cx 55 dX2_kindAtHand_50 (by decide) (fun zc5 => ?_) (fun zc5 => ?_)
          · skip
            refine j_aload_n 55 cx 0 dX2_kindAtHand_55 rfl ?_
            refine j_ldcS 56 cx (index := 93) (cx.e.2.2.2.2.2 5 (by decide)) dX2_kindAtHand_56 ?_
            refine j_callV_i 58 cx 1 [0, 1, 2] [.ref ((gK G 5))] (fun _ => wRD ax (nI (cT (rK r))) (nI (rB r)) (nI (rA r)) nu ++ (wTP ax (nI n) ++ [((ax 8), .inl (gB G, 120, .inl (fun k => bt (t k))))])) (c_X2_isAtHand (kl K) G ax t n r nu hT hn hr 5 (by decide)) gX2_kindAtHand_X2_isAtHand rfl rfl rfl ⟨rfl, by decide, by decide, rfl⟩ ⟨Nat.le_of_ble_eq_true rfl, Nat.le_of_ble_eq_true rfl⟩ ⟨Nat.zero_le _, Nat.zero_le _⟩ rfl (by decide) (ci := 1) 0 rfl rfl rfl rfl rfl (Nat.le_of_ble_eq_true rfl) dX2_kindAtHand_58 (fun _ => rfl) (fun zu6 zk6 => ?_)
            refine j_top (bI (decide (rK r = 5))) rfl ?_
            refine j_ifB_eq 61 cx 68 dX2_kindAtHand_61 (by decide) (fun zc6 => ?_) (fun zc6 => ?_)
            · skip
              refine j_iconst 68 cx (-1) dX2_kindAtHand_68 (by decide) ?_
              exact fin () _ _ _ _ dX2_kindAtHand_69 rfl (by have h0 := of_decide_eq_false zc1; have h1 := of_decide_eq_false zc2; have h2 := of_decide_eq_false zc3; have h3 := of_decide_eq_false zc4; have h4 := of_decide_eq_false zc5; have h5 := of_decide_eq_false zc6; exact (if_neg (by omega)).symm) rfl trivial
            · skip
              refine j_iconst 64 cx 5 dX2_kindAtHand_64 (by decide) ?_
              refine j_goto 65 cx 69 dX2_kindAtHand_65 (by decide) ?_
              exact fin () _ _ _ _ dX2_kindAtHand_69 rfl (by rw [of_decide_eq_true zc6]; rfl) rfl trivial
          · skip
            refine j_iconst 53 cx 4 dX2_kindAtHand_53 (by decide) ?_
            exact fin () _ _ _ _ dX2_kindAtHand_54 rfl (by rw [of_decide_eq_true zc5]; rfl) rfl trivial
        · skip
          refine j_iconst 42 cx 3 dX2_kindAtHand_42 (by decide) ?_
          exact fin () _ _ _ _ dX2_kindAtHand_43 rfl (by rw [of_decide_eq_true zc4]; rfl) rfl trivial
      · skip
        refine j_iconst 31 cx 2 dX2_kindAtHand_31 (by decide) ?_
        exact fin () _ _ _ _ dX2_kindAtHand_32 rfl (by rw [of_decide_eq_true zc3]; rfl) rfl trivial
    · skip
      refine j_iconst 20 cx 1 dX2_kindAtHand_20 (by decide) ?_
      exact fin () _ _ _ _ dX2_kindAtHand_21 rfl (by rw [of_decide_eq_true zc2]; rfl) rfl trivial
  · skip
    refine j_iconst 9 cx 0 dX2_kindAtHand_9 (by decide) ?_
    exact fin () _ _ _ _ dX2_kindAtHand_10 rfl (by rw [of_decide_eq_true zc1]; rfl) rfl trivial
set_option maxRecDepth 100000 in
set_option maxHeartbeats 4000000 in
theorem c_X2_takeNumber_t (l : Launch) (G : pG) (ax : Nat → Nat) (t : TF) (n : Nat) (r : RT) (nu : Int32) (hT : okT t) (hn : n ≤ 120) (hr : RW t n r) (hu : rK r = 20 → nu = nI (min 10000 (rV r))) (lo hi : Nat) (hl : hi ≤ 9999) (hok : nOk r lo hi = true) : KI l G yX2_takeNumber wsX2_takeNumber ({ frames := 2, cells := 0, slots := 0, locals := 41 } : Room) [.ref ((ax 5)), .int (nI lo), .int (nI hi)] (wRD ax (nI (cT (rK r))) (nI (rB r)) (nI (rA r)) nu ++ (wTP ax (nI n) ++ [((ax 8), .inl (gB G, 120, .inl (fun k => bt (t k))))])) (S := Int32) (fun u => rK (nx t n r) = 20 → u = nI (min 10000 (rV (nx t n r)))) (fun u => nI (rV r)) (fun u => wRD ax (nI (cT (rK (nx t n r)))) (nI (rB (nx t n r))) (nI (rA (nx t n r))) u ++ (wTP ax (nI n) ++ [((ax 8), .inl (gB G, 120, .inl (fun k => bt (t k))))])) := by
  have hn9 := nOk_t hok
  have hu9 : nu = nI (rV r) := by rw [hu hn9.1, show min 10000 (rV r) = rV r from by omega]
  refine ki_of [(0, .ref ((ax 5))), (1, .int (nI lo)), (2, .int (nI hi))] (own := RX2) (cc := cX2_takeNumber) (nL := 4) (by decide +kernel) rfl rfl (Nat.le_of_ble_eq_true rfl) rfl (fun _ => rfl) (fun K cx fin => ?_)
  refine j_aload_n 0 cx 0 dX2_takeNumber_0 rfl ?_
  refine j_get 1 cx 0 1 (T := TX2) (v := .int (nI (cT (rK r)))) (fun _ h => List.mem_cons_of_mem _ (List.mem_append_left _ (List.mem_append_right _ (h)))) (List.mem_of_getElem? (i := 1) rfl) (ci := 1) rfl (by decide) rfl rfl rfl dX2_takeNumber_1 ?_
  refine j_iconst 4 cx 2 dX2_takeNumber_4 (by decide) ?_
  refine j_icmp_ne_F 5 cx 24 dX2_takeNumber_5 (by decide) (by rw [hn9.1]; rfl) ?_
  refine j_aload_n 8 cx 0 dX2_takeNumber_8 rfl ?_
  refine j_get 9 cx 0 4 (T := TX2) (v := .int nu) (fun _ h => List.mem_cons_of_mem _ (List.mem_append_left _ (List.mem_append_right _ (h)))) (List.mem_of_getElem? (i := 2) rfl) (ci := 1) rfl (by decide) rfl rfl rfl dX2_takeNumber_9 ?_
  refine j_top (nI (rV r)) hu9 ?_
  refine j_iload_n 12 cx 1 dX2_takeNumber_12 rfl ?_
  refine j_icmp_lt_F 13 cx 24 dX2_takeNumber_13 (by decide) (nI_nlt (by omega) (by omega)) ?_
  refine j_aload_n 16 cx 0 dX2_takeNumber_16 rfl ?_
  refine j_get 17 cx 0 4 (T := TX2) (v := .int nu) (fun _ h => List.mem_cons_of_mem _ (List.mem_append_left _ (List.mem_append_right _ (h)))) (List.mem_of_getElem? (i := 2) rfl) (ci := 1) rfl (by decide) rfl rfl rfl dX2_takeNumber_17 ?_
  refine j_top (nI (rV r)) hu9 ?_
  refine j_iload_n 20 cx 2 dX2_takeNumber_20 rfl ?_
  refine j_icmp_le_T 21 cx 26 dX2_takeNumber_21 (by decide) (nI_le (by omega) (by omega)) ?_
  refine j_aload_n 26 cx 0 dX2_takeNumber_26 rfl ?_
  refine j_get 27 cx 0 4 (T := TX2) (v := .int nu) (fun _ h => List.mem_cons_of_mem _ (List.mem_append_left _ (List.mem_append_right _ (h)))) (List.mem_of_getElem? (i := 2) rfl) (ci := 1) rfl (by decide) rfl rfl rfl dX2_takeNumber_27 ?_
  refine j_top (nI (rV r)) hu9 ?_
  refine j_istore_n 30 cx [(3, .int (nI (rV r))), (0, .ref ((ax 5))), (1, .int (nI lo)), (2, .int (nI hi))] dX2_takeNumber_30 (by decide) rfl ?_
  refine j_aload_n 31 cx 1 dX2_takeNumber_31 rfl ?_
  refine j_callV_v 32 cx 0 [0, 1, 2] [] (fun zu1 => wRD ax (nI (cT (rK (nx t n r)))) (nI (rB (nx t n r))) (nI (rA (nx t n r))) zu1 ++ (wTP ax (nI n) ++ [((ax 8), .inl (gB G, 120, .inl (fun k => bt (t k))))])) (c_X2_step (kl K) G ax t n (rA r) (nI (cT (rK r))) (nI (rB r)) nu hT hn hr.an) gX2_takeNumber_X2_step rfl rfl rfl ⟨rfl, by decide, by decide, rfl⟩ ⟨Nat.le_of_ble_eq_true rfl, Nat.le_of_ble_eq_true rfl⟩ ⟨Nat.zero_le _, Nat.zero_le _⟩ rfl (by decide) (ci := 1) 0 rfl rfl rfl rfl rfl (Nat.le_of_ble_eq_true rfl) dX2_takeNumber_32 (fun _ => rfl) (fun zu1 zk1 => ?_)
  have huzu1 := zk1
  refine j_iload_n 35 cx 0 dX2_takeNumber_35 rfl ?_
  exact fin zu1 _ _ _ _ dX2_takeNumber_36 rfl rfl rfl huzu1
set_option maxRecDepth 100000 in
set_option maxHeartbeats 4000000 in
theorem c_X2_takeNumber_f (l : Launch) (G : pG) (ax : Nat → Nat) (t : TF) (n : Nat) (r : RT) (nu : Int32) (hT : okT t) (hn : n ≤ 120) (hr : RW t n r) (hu : rK r = 20 → nu = nI (min 10000 (rV r))) (lo hi : Nat) (hl : hi ≤ 9999) (hl0 : lo ≤ 9999) (hok : nOk r lo hi = false) : KI l G yX2_takeNumber wsX2_takeNumber ({ frames := 2, cells := 0, slots := 0, locals := 41 } : Room) [.ref ((ax 5)), .int (nI lo), .int (nI hi)] (wRD ax (nI (cT (rK r))) (nI (rB r)) (nI (rA r)) nu ++ (wTP ax (nI n) ++ [((ax 8), .inl (gB G, 120, .inl (fun k => bt (t k))))])) (S := Unit) (fun _ => True) (fun u => -1) (fun u => wRD ax (nI (cT (rK r))) (nI (rB r)) (nI (rA r)) nu ++ (wTP ax (nI n) ++ [((ax 8), .inl (gB G, 120, .inl (fun k => bt (t k))))])) := by
  refine ki_of [(0, .ref ((ax 5))), (1, .int (nI lo)), (2, .int (nI hi))] (own := RX2) (cc := cX2_takeNumber) (nL := 4) (by decide +kernel) rfl rfl (Nat.le_of_ble_eq_true rfl) rfl (fun _ => rfl) (fun K cx fin => ?_)
  refine j_aload_n 0 cx 0 dX2_takeNumber_0 rfl ?_
  refine j_get 1 cx 0 1 (T := TX2) (v := .int (nI (cT (rK r)))) (fun _ h => List.mem_cons_of_mem _ (List.mem_append_left _ (List.mem_append_right _ (h)))) (List.mem_of_getElem? (i := 1) rfl) (ci := 1) rfl (by decide) rfl rfl rfl dX2_takeNumber_1 ?_
  refine j_iconst 4 cx 2 dX2_takeNumber_4 (by decide) ?_
  refine j_icmp_ne 5 cx 24 dX2_takeNumber_5 (by decide) (fun zc1 => ?_) (fun zc1 => ?_)
  · skip
    refine j_iconst 24 cx (-1) dX2_takeNumber_24 (by decide) ?_
    exact fin () _ _ _ _ dX2_takeNumber_25 rfl rfl rfl trivial
  · skip
    refine j_aload_n 8 cx 0 dX2_takeNumber_8 rfl ?_
    refine j_get 9 cx 0 4 (T := TX2) (v := .int nu) (fun _ h => List.mem_cons_of_mem _ (List.mem_append_left _ (List.mem_append_right _ (h)))) (List.mem_of_getElem? (i := 2) rfl) (ci := 1) rfl (by decide) rfl rfl rfl dX2_takeNumber_9 ?_
    refine j_iload_n 12 cx 1 dX2_takeNumber_12 rfl ?_
    refine j_icmp_lt 13 cx 24 dX2_takeNumber_13 (by decide) (fun zc2 => ?_) (fun zc2 => ?_)
    · skip
      refine j_iconst 24 cx (-1) dX2_takeNumber_24 (by decide) ?_
      exact fin () _ _ _ _ dX2_takeNumber_25 rfl rfl rfl trivial
    · skip
      refine j_aload_n 16 cx 0 dX2_takeNumber_16 rfl ?_
      refine j_get 17 cx 0 4 (T := TX2) (v := .int nu) (fun _ h => List.mem_cons_of_mem _ (List.mem_append_left _ (List.mem_append_right _ (h)))) (List.mem_of_getElem? (i := 2) rfl) (ci := 1) rfl (by decide) rfl rfl rfl dX2_takeNumber_17 ?_
      refine j_iload_n 20 cx 2 dX2_takeNumber_20 rfl ?_
      refine j_icmp_le_F 21 cx 26 dX2_takeNumber_21 (by decide) (tk_gt hu hl hl0 hok zc1 zc2) ?_
      refine j_iconst 24 cx (-1) dX2_takeNumber_24 (by decide) ?_
      exact fin () _ _ _ _ dX2_takeNumber_25 rfl rfl rfl trivial
set_option maxRecDepth 100000 in
set_option maxHeartbeats 4000000 in
theorem c_X2_tellDay (l : Launch) (G : pG) (ax : Nat → Nat) (t : TF) (n : Nat) (r : RT) (nu : Int32) (hT : okT t) (hn : n ≤ 120) (hr : RW t n r) (hu : rK r = 20 → nu = nI (min 10000 (rV r))) (qt : Nat → Nat) (σ : Nu) (h : Int32) : KI l G yX2_tellDay wsX2_tellDay ({ frames := 3, cells := 0, slots := 0, locals := 64 } : Room) [.ref ((ax 5)), .ref ((ax 2)), .int h] (wRD ax (nI (cT (rK r))) (nI (rB r)) (nI (rA r)) nu ++ (wTP ax (nI n) ++ ([((ax 8), .inl (gB G, 120, .inl (fun k => bt (t k))))] ++ wN G (ax 2) qt σ))) (S := Int32) (fun u => rK (dIt t n r σ h).2.1 = 20 → u = nI (min 10000 (rV (dIt t n r σ h).2.1))) (fun u => bI (dIt t n r σ h).1) (fun u => wRD ax (nI (cT (rK (dIt t n r σ h).2.1))) (nI (rB (dIt t n r σ h).2.1)) (nI (rA (dIt t n r σ h).2.1)) u ++ (wTP ax (nI n) ++ ([((ax 8), .inl (gB G, 120, .inl (fun k => bt (t k))))] ++ wN G (ax 2) qt (dIt t n r σ h).2.2))) := by
  refine ki_of [(0, .ref ((ax 5))), (1, .ref ((ax 2))), (2, .int h)] (own := RX2) (cc := cX2_tellDay) (nL := 4) (by decide +kernel) rfl rfl (Nat.le_of_ble_eq_true rfl) rfl (fun _ => rfl) (fun K cx fin => ?_)
  refine j_aload_n 0 cx 0 dX2_tellDay_0 rfl ?_
  refine j_callV_v 1 cx 0 [0, 1, 2] [] (fun zu1 => wRD ax (nI (cT (rK (nx t n r)))) (nI (rB (nx t n r))) (nI (rA (nx t n r))) zu1 ++ (wTP ax (nI n) ++ ([((ax 8), .inl (gB G, 120, .inl (fun k => bt (t k))))] ++ wN G (ax 2) qt σ))) (c_X2_step (kl K) G ax t n (rA r) (nI (cT (rK r))) (nI (rB r)) nu hT hn hr.an) gX2_tellDay_X2_step rfl rfl rfl ⟨rfl, by decide, by decide, rfl⟩ ⟨Nat.le_of_ble_eq_true rfl, Nat.le_of_ble_eq_true rfl⟩ ⟨Nat.zero_le _, Nat.zero_le _⟩ rfl (by decide) (ci := 1) 0 rfl rfl rfl rfl rfl (Nat.le_of_ble_eq_true rfl) dX2_tellDay_1 (fun _ => rfl) (fun zu1 zk1 => ?_)
  have huzu1 := zk1
  refine j_aload_n 4 cx 0 dX2_tellDay_4 rfl ?_
  refine j_iconst 5 cx 0 dX2_tellDay_5 (by decide) ?_
  refine j_bipush 6 cx 6 dX2_tellDay_6 (by decide) ?_
  rcases bcase (nOk (nx t n r) 0 6) with zc1 | zc1
  · skip
    refine j_callV_i 8 cx 2 [0, 1, 2] [.int 0, .int 6] (fun zu3 => wRD ax (nI (cT (rK (nx t n (nx t n r))))) (nI (rB (nx t n (nx t n r)))) (nI (rA (nx t n (nx t n r)))) zu3 ++ (wTP ax (nI n) ++ ([((ax 8), .inl (gB G, 120, .inl (fun k => bt (t k))))] ++ wN G (ax 2) qt σ))) (c_X2_takeNumber_t (kl K) G ax t n (nx t n r) zu1 hT hn hr.nxt huzu1 0 6 (by decide) zc1) gX2_tellDay_X2_takeNumber rfl rfl rfl ⟨rfl, by decide, by decide, rfl⟩ ⟨Nat.le_of_ble_eq_true rfl, Nat.le_of_ble_eq_true rfl⟩ ⟨Nat.zero_le _, Nat.zero_le _⟩ rfl (by decide) (ci := 1) 0 rfl rfl rfl rfl rfl (Nat.le_of_ble_eq_true rfl) dX2_tellDay_8 (fun _ => rfl) (fun zu3 zk2 => ?_)
    have huzu3 := zk2
    have hvzu3 := nOk_t zc1
    refine j_top (nI (rV (nx t n r))) rfl ?_
    refine j_istore_n 11 cx [(3, .int (nI (rV (nx t n r)))), (0, .ref ((ax 5))), (1, .ref ((ax 2))), (2, .int h)] dX2_tellDay_11 (by decide) rfl ?_
    refine j_iload_n 12 cx 0 dX2_tellDay_12 rfl ?_
    refine j_if_ge_T 13 cx 18 dX2_tellDay_13 (by decide) (nI_pos' (by omega)) ?_
    refine j_aload_n 18 cx 2 dX2_tellDay_18 rfl ?_
    refine j_get 19 cx 3 4 (T := TX1) (v := .ref (qt 1)) (fun _ h => List.mem_cons_of_mem _ (List.mem_append_left _ (List.mem_append_left _ (List.mem_append_right _ (h))))) (List.mem_of_getElem? (i := 1) rfl) (ci := 0) rfl (by decide) rfl rfl rfl dX2_tellDay_19 ?_
    refine j_iload_n 22 cx 0 dX2_tellDay_22 rfl ?_
    refine j_iload_n 23 cx 3 dX2_tellDay_23 rfl ?_
    refine j_iast 24 cx 4 (rV (nx t n r)) (wRD ax (nI (cT (rK (nx t n (nx t n r))))) (nI (rB (nx t n (nx t n r)))) (nI (rA (nx t n (nx t n r)))) zu3 ++ (wTP ax (nI n) ++ ([((ax 8), .inl (gB G, 120, .inl (fun k => bt (t k))))] ++ wN G (ax 2) qt (up2 σ 1 (rV (nx t n r)) h)))) rfl rfl (by omega) (by decide) rfl dX2_tellDay_24 ?_
    refine j_iconst 25 cx 1 dX2_tellDay_25 (by decide) ?_
    have ze : (dIt t n r σ h) = (true, (nx t n (nx t n r)), (up2 σ 1 (rV (nx t n r)) h)) := by simp [dIt, zc1]
    exact fin zu3 _ _ _ _ dX2_tellDay_26 rfl (by rw [ze] <;> rfl) (by rw [ze] <;> rfl) (fun q => by rw [ze] at q ⊢; exact huzu3 q)
  · skip
    refine j_callV_i 8 cx 2 [0, 1, 2] [.int 0, .int 6] (fun _ => wRD ax (nI (cT (rK (nx t n r)))) (nI (rB (nx t n r))) (nI (rA (nx t n r))) zu1 ++ (wTP ax (nI n) ++ ([((ax 8), .inl (gB G, 120, .inl (fun k => bt (t k))))] ++ wN G (ax 2) qt σ))) (c_X2_takeNumber_f (kl K) G ax t n (nx t n r) zu1 hT hn hr.nxt huzu1 0 6 (by decide) (by decide) zc1) gX2_tellDay_X2_takeNumber rfl rfl rfl ⟨rfl, by decide, by decide, rfl⟩ ⟨Nat.le_of_ble_eq_true rfl, Nat.le_of_ble_eq_true rfl⟩ ⟨Nat.zero_le _, Nat.zero_le _⟩ rfl (by decide) (ci := 1) 0 rfl rfl rfl rfl rfl (Nat.le_of_ble_eq_true rfl) dX2_tellDay_8 (fun _ => rfl) (fun zu5 zk3 => ?_)
    refine j_top ((-1)) rfl ?_
    refine j_istore_n 11 cx [(3, .int ((-1))), (0, .ref ((ax 5))), (1, .ref ((ax 2))), (2, .int h)] dX2_tellDay_11 (by decide) rfl ?_
    refine j_iload_n 12 cx 0 dX2_tellDay_12 rfl ?_
    refine j_if_ge_F 13 cx 18 dX2_tellDay_13 (by decide) (by decide) ?_
    refine j_iconst 16 cx 0 dX2_tellDay_16 (by decide) ?_
    have ze : (dIt t n r σ h) = (false, (nx t n r), σ) := by simp [dIt, zc1]
    exact fin zu1 _ _ _ _ dX2_tellDay_17 rfl (by rw [ze] <;> rfl) (by rw [ze] <;> rfl) (fun q => by rw [ze] at q ⊢; exact huzu1 q)
set_option maxRecDepth 100000 in
set_option maxHeartbeats 4000000 in
theorem c_X2_tellPart (l : Launch) (G : pG) (ax : Nat → Nat) (t : TF) (n : Nat) (r : RT) (nu : Int32) (hT : okT t) (hn : n ≤ 120) (hr : RW t n r) (hu : rK r = 20 → nu = nI (min 10000 (rV r))) (qt : Nat → Nat) (σ : Nu) (hI : Inv σ) (kd : Int32) : KI l G yX2_tellPart wsX2_tellPart ({ frames := 6, cells := 0, slots := 0, locals := 128 } : Room) [.ref ((ax 5)), .ref ((ax 2)), .int kd] (wRD ax (nI (cT (rK r))) (nI (rB r)) (nI (rA r)) nu ++ (wTP ax (nI n) ++ ([((ax 8), .inl (gB G, 120, .inl (fun k => bt (t k))))] ++ wN G (ax 2) qt σ))) (S := Int32) (fun u => rK (pIt t n r σ kd).2.1 = 20 → u = nI (min 10000 (rV (pIt t n r σ kd).2.1))) (fun u => bI (pIt t n r σ kd).1) (fun u => wRD ax (nI (cT (rK (pIt t n r σ kd).2.1))) (nI (rB (pIt t n r σ kd).2.1)) (nI (rA (pIt t n r σ kd).2.1)) u ++ (wTP ax (nI n) ++ ([((ax 8), .inl (gB G, 120, .inl (fun k => bt (t k))))] ++ wN G (ax 2) qt (pIt t n r σ kd).2.2))) := by
  refine ki_of [(0, .ref ((ax 5))), (1, .ref ((ax 2))), (2, .int kd)] (own := RX2) (cc := cX2_tellPart) (nL := 6) (by decide +kernel) rfl rfl (Nat.le_of_ble_eq_true rfl) rfl (fun _ => rfl) (fun K cx fin => ?_)
  refine j_aload_n 0 cx 1 dX2_tellPart_0 rfl ?_
  refine j_callV_i 1 cx 0 [3, 4, 5, 6, 7, 8, 9] [] (fun _ => wRD ax (nI (cT (rK r))) (nI (rB r)) (nI (rA r)) nu ++ (wTP ax (nI n) ++ ([((ax 8), .inl (gB G, 120, .inl (fun k => bt (t k))))] ++ wN G (ax 2) qt σ))) (c_X1_isFull (kl K) G (ax 2) qt σ hI.sz hI.sz8) gX2_tellPart_X1_isFull rfl rfl rfl ⟨rfl, by decide, by decide, rfl⟩ ⟨Nat.le_of_ble_eq_true rfl, Nat.le_of_ble_eq_true rfl⟩ ⟨Nat.zero_le _, Nat.zero_le _⟩ rfl (by decide) (ci := 0) 0 rfl rfl rfl rfl rfl (Nat.le_of_ble_eq_true rfl) dX2_tellPart_1 (fun _ => rfl) (fun zu1 zk1 => ?_)
  refine j_top (bI (decide (8 ≤ szN σ))) rfl ?_
  refine j_ifB_eq 4 cx 9 dX2_tellPart_4 (by decide) (fun zc1 => ?_) (fun zc1 => ?_)
  · skip
    have hz8 : szN σ < 8 := by have h2 := of_decide_eq_false zc1; omega
    have hz9 : ¬ szN σ = 8 := by omega
    refine j_aload_n 9 cx 0 dX2_tellPart_9 rfl ?_
    refine j_callV_v 10 cx 0 [0, 1, 2] [] (fun zu2 => wRD ax (nI (cT (rK (nx t n r)))) (nI (rB (nx t n r))) (nI (rA (nx t n r))) zu2 ++ (wTP ax (nI n) ++ ([((ax 8), .inl (gB G, 120, .inl (fun k => bt (t k))))] ++ wN G (ax 2) qt σ))) (c_X2_step (kl K) G ax t n (rA r) (nI (cT (rK r))) (nI (rB r)) nu hT hn hr.an) gX2_tellPart_X2_step rfl rfl rfl ⟨rfl, by decide, by decide, rfl⟩ ⟨Nat.le_of_ble_eq_true rfl, Nat.le_of_ble_eq_true rfl⟩ ⟨Nat.zero_le _, Nat.zero_le _⟩ rfl (by decide) (ci := 1) 0 rfl rfl rfl rfl rfl (Nat.le_of_ble_eq_true rfl) dX2_tellPart_10 (fun _ => rfl) (fun zu2 zk2 => ?_)
    have huzu2 := zk2
    refine j_aload_n 13 cx 0 dX2_tellPart_13 rfl ?_
    refine j_iconst 14 cx 0 dX2_tellPart_14 (by decide) ?_
    refine j_sipush 15 cx 9999 dX2_tellPart_15 (by decide) ?_
    rcases bcase (nOk (nx t n r) 0 9999) with zc2 | zc2
    · skip
      refine j_callV_i 18 cx 2 [0, 1, 2] [.int 0, .int 9999] (fun zu4 => wRD ax (nI (cT (rK (nx t n (nx t n r))))) (nI (rB (nx t n (nx t n r)))) (nI (rA (nx t n (nx t n r)))) zu4 ++ (wTP ax (nI n) ++ ([((ax 8), .inl (gB G, 120, .inl (fun k => bt (t k))))] ++ wN G (ax 2) qt σ))) (c_X2_takeNumber_t (kl K) G ax t n (nx t n r) zu2 hT hn hr.nxt huzu2 0 9999 (by decide) zc2) gX2_tellPart_X2_takeNumber rfl rfl rfl ⟨rfl, by decide, by decide, rfl⟩ ⟨Nat.le_of_ble_eq_true rfl, Nat.le_of_ble_eq_true rfl⟩ ⟨Nat.zero_le _, Nat.zero_le _⟩ rfl (by decide) (ci := 1) 0 rfl rfl rfl rfl rfl (Nat.le_of_ble_eq_true rfl) dX2_tellPart_18 (fun _ => rfl) (fun zu4 zk3 => ?_)
      have huzu4 := zk3
      have hvzu4 := nOk_t zc2
      refine j_top (nI (rV (nx t n r))) rfl ?_
      refine j_istore_n 21 cx [(3, .int (nI (rV (nx t n r)))), (0, .ref ((ax 5))), (1, .ref ((ax 2))), (2, .int kd)] dX2_tellPart_21 (by decide) rfl ?_
      refine j_iload_n 22 cx 0 dX2_tellPart_22 rfl ?_
      refine j_if_ge_T 23 cx 28 dX2_tellPart_23 (by decide) (nI_pos' (by omega)) ?_
      refine j_bipush 28 cx 10 dX2_tellPart_28 (by decide) ?_
      refine j_top (nI 10) rfl ?_
      refine j_istore 30 cx [(4, .int (nI 10)), (3, .int (nI (rV (nx t n r)))), (0, .ref ((ax 5))), (1, .ref ((ax 2))), (2, .int kd)] dX2_tellPart_30 (by decide) rfl ?_
      refine j_aload_n 32 cx 2 dX2_tellPart_32 rfl ?_
      refine j_ldcS 33 cx (index := 67) (cx.e.2.2.2.2.2 6 (by decide)) dX2_tellPart_33 ?_
      refine j_callV_i 35 cx 1 [0, 1, 2] [.ref ((gK G 6))] (fun _ => wRD ax (nI (cT (rK (nx t n (nx t n r))))) (nI (rB (nx t n (nx t n r)))) (nI (rA (nx t n (nx t n r)))) zu4 ++ (wTP ax (nI n) ++ ([((ax 8), .inl (gB G, 120, .inl (fun k => bt (t k))))] ++ wN G (ax 2) qt σ))) (c_X2_isAtHand (kl K) G ax t n (nx t n (nx t n r)) zu4 hT hn hr.nxt.nxt 6 (by decide)) gX2_tellPart_X2_isAtHand rfl rfl rfl ⟨rfl, by decide, by decide, rfl⟩ ⟨Nat.le_of_ble_eq_true rfl, Nat.le_of_ble_eq_true rfl⟩ ⟨Nat.zero_le _, Nat.zero_le _⟩ rfl (by decide) (ci := 1) 0 rfl rfl rfl rfl rfl (Nat.le_of_ble_eq_true rfl) dX2_tellPart_35 (fun _ => rfl) (fun zu6 zk4 => ?_)
      refine j_top (bI (decide (rK (nx t n (nx t n r)) = 6))) rfl ?_
      refine j_ifB_eq 38 cx 61 dX2_tellPart_38 (by decide) (fun zc3 => ?_) (fun zc3 => ?_)
      · skip
        refine j_iconst 61 cx 0 dX2_tellPart_61 (by decide) ?_
        refine j_top (nI 0) rfl ?_
        refine j_istore 62 cx [(5, .int (nI 0)), (4, .int (nI 10)), (3, .int (nI (rV (nx t n r)))), (0, .ref ((ax 5))), (1, .ref ((ax 2))), (2, .int kd)] dX2_tellPart_62 (by decide) rfl ?_
        refine j_aload_n 64 cx 3 dX2_tellPart_64 rfl ?_
        refine j_ldcS 65 cx (index := 69) (cx.e.2.2.2.2.2 7 (by decide)) dX2_tellPart_65 ?_
        refine j_callV_i 67 cx 1 [0, 1, 2] [.ref ((gK G 7))] (fun _ => wRD ax (nI (cT (rK (nx t n (nx t n r))))) (nI (rB (nx t n (nx t n r)))) (nI (rA (nx t n (nx t n r)))) zu4 ++ (wTP ax (nI n) ++ ([((ax 8), .inl (gB G, 120, .inl (fun k => bt (t k))))] ++ wN G (ax 2) qt σ))) (c_X2_isAtHand (kl K) G ax t n (nx t n (nx t n r)) zu4 hT hn hr.nxt.nxt 7 (by decide)) gX2_tellPart_X2_isAtHand rfl rfl rfl ⟨rfl, by decide, by decide, rfl⟩ ⟨Nat.le_of_ble_eq_true rfl, Nat.le_of_ble_eq_true rfl⟩ ⟨Nat.zero_le _, Nat.zero_le _⟩ rfl (by decide) (ci := 1) 0 rfl rfl rfl rfl rfl (Nat.le_of_ble_eq_true rfl) dX2_tellPart_67 (fun _ => rfl) (fun zu7 zk5 => ?_)
        refine j_top (bI (decide (rK (nx t n (nx t n r)) = 7))) rfl ?_
        refine j_ifB_eq 70 cx 93 dX2_tellPart_70 (by decide) (fun zc4 => ?_) (fun zc4 => ?_)
        · skip
          refine j_aload_n 93 cx 4 dX2_tellPart_93 rfl ?_
          refine j_iload_n 94 cx 5 dX2_tellPart_94 rfl ?_
          refine j_iload 95 cx 1 dX2_tellPart_95 rfl ?_
          refine j_iload_n 97 cx 2 dX2_tellPart_97 rfl ?_
          refine j_iload 98 cx 0 dX2_tellPart_98 rfl ?_
          refine j_callV_i 100 cx 4 [3, 4, 5, 6, 7, 8, 9] [.int kd, .int (nI 10), .int (nI (rV (nx t n r))), .int (nI 0)] (fun _ => wRD ax (nI (cT (rK (nx t n (nx t n r))))) (nI (rB (nx t n (nx t n r)))) (nI (rA (nx t n (nx t n r)))) zu4 ++ (wTP ax (nI n) ++ ([((ax 8), .inl (gB G, 120, .inl (fun k => bt (t k))))] ++ wN G (ax 2) qt (addF σ kd (nI 10) (nI (rV (nx t n r))) (nI 0))))) (c_X1_add (kl K) G (ax 2) qt σ kd (nI 10) (nI (rV (nx t n r))) (nI 0) hI.sz hz8) gX2_tellPart_X1_add rfl rfl rfl ⟨rfl, by decide, by decide, rfl⟩ ⟨Nat.le_of_ble_eq_true rfl, Nat.le_of_ble_eq_true rfl⟩ ⟨Nat.zero_le _, Nat.zero_le _⟩ rfl (by decide) (ci := 0) 0 rfl rfl rfl rfl rfl (Nat.le_of_ble_eq_true rfl) dX2_tellPart_100 (fun _ => rfl) (fun zu8 zk6 => ?_)
          refine j_top (nI (szN σ)) rfl ?_
          refine j_pop 103 cx dX2_tellPart_103 rfl ?_
          refine j_iconst 104 cx 1 dX2_tellPart_104 (by decide) ?_
          have ze : (pIt t n r σ kd) = (true, (nx t n (nx t n r)), (addF σ kd (nI 10) (nI (rV (nx t n r))) (nI 0))) := by simp [pIt, pIt1, pIt2, opR, of_decide_eq_false zc1, hz9, zc2, of_decide_eq_false zc3, of_decide_eq_false zc4]
          exact fin zu4 _ _ _ _ dX2_tellPart_105 rfl (by rw [ze] <;> rfl) (by rw [ze] <;> rfl) (fun q => by rw [ze] at q ⊢; exact huzu4 q)
        · skip
          refine j_aload_n 73 cx 3 dX2_tellPart_73 rfl ?_
          refine j_callV_v 74 cx 0 [0, 1, 2] [] (fun zu9 => wRD ax (nI (cT (rK (nx t n (nx t n (nx t n r)))))) (nI (rB (nx t n (nx t n (nx t n r))))) (nI (rA (nx t n (nx t n (nx t n r))))) zu9 ++ (wTP ax (nI n) ++ ([((ax 8), .inl (gB G, 120, .inl (fun k => bt (t k))))] ++ wN G (ax 2) qt σ))) (c_X2_step (kl K) G ax t n (rA (nx t n (nx t n r))) (nI (cT (rK (nx t n (nx t n r))))) (nI (rB (nx t n (nx t n r)))) zu4 hT hn hr.nxt.nxt.an) gX2_tellPart_X2_step rfl rfl rfl ⟨rfl, by decide, by decide, rfl⟩ ⟨Nat.le_of_ble_eq_true rfl, Nat.le_of_ble_eq_true rfl⟩ ⟨Nat.zero_le _, Nat.zero_le _⟩ rfl (by decide) (ci := 1) 0 rfl rfl rfl rfl rfl (Nat.le_of_ble_eq_true rfl) dX2_tellPart_74 (fun _ => rfl) (fun zu9 zk7 => ?_)
          have huzu9 := zk7
          refine j_aload_n 77 cx 3 dX2_tellPart_77 rfl ?_
          refine j_iconst 78 cx 0 dX2_tellPart_78 (by decide) ?_
          refine j_bipush 79 cx 99 dX2_tellPart_79 (by decide) ?_
          rcases bcase (nOk (nx t n (nx t n (nx t n r))) 0 99) with zc5 | zc5
          · skip
            refine j_callV_i 81 cx 2 [0, 1, 2] [.int 0, .int 99] (fun zu11 => wRD ax (nI (cT (rK (nx t n (nx t n (nx t n (nx t n r))))))) (nI (rB (nx t n (nx t n (nx t n (nx t n r)))))) (nI (rA (nx t n (nx t n (nx t n (nx t n r)))))) zu11 ++ (wTP ax (nI n) ++ ([((ax 8), .inl (gB G, 120, .inl (fun k => bt (t k))))] ++ wN G (ax 2) qt σ))) (c_X2_takeNumber_t (kl K) G ax t n (nx t n (nx t n (nx t n r))) zu9 hT hn hr.nxt.nxt.nxt huzu9 0 99 (by decide) zc5) gX2_tellPart_X2_takeNumber rfl rfl rfl ⟨rfl, by decide, by decide, rfl⟩ ⟨Nat.le_of_ble_eq_true rfl, Nat.le_of_ble_eq_true rfl⟩ ⟨Nat.zero_le _, Nat.zero_le _⟩ rfl (by decide) (ci := 1) 0 rfl rfl rfl rfl rfl (Nat.le_of_ble_eq_true rfl) dX2_tellPart_81 (fun _ => rfl) (fun zu11 zk8 => ?_)
            have huzu11 := zk8
            have hvzu11 := nOk_t zc5
            refine j_top (nI (rV (nx t n (nx t n (nx t n r))))) rfl ?_
            refine j_istore 84 cx [(5, .int (nI (rV (nx t n (nx t n (nx t n r)))))), (4, .int (nI 10)), (3, .int (nI (rV (nx t n r)))), (0, .ref ((ax 5))), (1, .ref ((ax 2))), (2, .int kd)] dX2_tellPart_84 (by decide) rfl ?_
            refine j_iload 86 cx 0 dX2_tellPart_86 rfl ?_
            refine j_if_ge_T 88 cx 93 dX2_tellPart_88 (by decide) (nI_pos' (by omega)) ?_
            refine j_aload_n 93 cx 4 dX2_tellPart_93 rfl ?_
            refine j_iload_n 94 cx 5 dX2_tellPart_94 rfl ?_
            refine j_iload 95 cx 1 dX2_tellPart_95 rfl ?_
            refine j_iload_n 97 cx 2 dX2_tellPart_97 rfl ?_
            refine j_iload 98 cx 0 dX2_tellPart_98 rfl ?_
            refine j_callV_i 100 cx 4 [3, 4, 5, 6, 7, 8, 9] [.int kd, .int (nI 10), .int (nI (rV (nx t n r))), .int (nI (rV (nx t n (nx t n (nx t n r)))))] (fun _ => wRD ax (nI (cT (rK (nx t n (nx t n (nx t n (nx t n r))))))) (nI (rB (nx t n (nx t n (nx t n (nx t n r)))))) (nI (rA (nx t n (nx t n (nx t n (nx t n r)))))) zu11 ++ (wTP ax (nI n) ++ ([((ax 8), .inl (gB G, 120, .inl (fun k => bt (t k))))] ++ wN G (ax 2) qt (addF σ kd (nI 10) (nI (rV (nx t n r))) (nI (rV (nx t n (nx t n (nx t n r))))))))) (c_X1_add (kl K) G (ax 2) qt σ kd (nI 10) (nI (rV (nx t n r))) (nI (rV (nx t n (nx t n (nx t n r))))) hI.sz hz8) gX2_tellPart_X1_add rfl rfl rfl ⟨rfl, by decide, by decide, rfl⟩ ⟨Nat.le_of_ble_eq_true rfl, Nat.le_of_ble_eq_true rfl⟩ ⟨Nat.zero_le _, Nat.zero_le _⟩ rfl (by decide) (ci := 0) 0 rfl rfl rfl rfl rfl (Nat.le_of_ble_eq_true rfl) dX2_tellPart_100 (fun _ => rfl) (fun zu13 zk9 => ?_)
            refine j_top (nI (szN σ)) rfl ?_
            refine j_pop 103 cx dX2_tellPart_103 rfl ?_
            refine j_iconst 104 cx 1 dX2_tellPart_104 (by decide) ?_
            have ze : (pIt t n r σ kd) = (true, (nx t n (nx t n (nx t n (nx t n r)))), (addF σ kd (nI 10) (nI (rV (nx t n r))) (nI (rV (nx t n (nx t n (nx t n r))))))) := by simp [pIt, pIt1, pIt2, opR, of_decide_eq_false zc1, hz9, zc2, of_decide_eq_false zc3, of_decide_eq_true zc4, zc5]
            exact fin zu11 _ _ _ _ dX2_tellPart_105 rfl (by rw [ze] <;> rfl) (by rw [ze] <;> rfl) (fun q => by rw [ze] at q ⊢; exact huzu11 q)
          · skip
            refine j_callV_i 81 cx 2 [0, 1, 2] [.int 0, .int 99] (fun _ => wRD ax (nI (cT (rK (nx t n (nx t n (nx t n r)))))) (nI (rB (nx t n (nx t n (nx t n r))))) (nI (rA (nx t n (nx t n (nx t n r))))) zu9 ++ (wTP ax (nI n) ++ ([((ax 8), .inl (gB G, 120, .inl (fun k => bt (t k))))] ++ wN G (ax 2) qt σ))) (c_X2_takeNumber_f (kl K) G ax t n (nx t n (nx t n (nx t n r))) zu9 hT hn hr.nxt.nxt.nxt huzu9 0 99 (by decide) (by decide) zc5) gX2_tellPart_X2_takeNumber rfl rfl rfl ⟨rfl, by decide, by decide, rfl⟩ ⟨Nat.le_of_ble_eq_true rfl, Nat.le_of_ble_eq_true rfl⟩ ⟨Nat.zero_le _, Nat.zero_le _⟩ rfl (by decide) (ci := 1) 0 rfl rfl rfl rfl rfl (Nat.le_of_ble_eq_true rfl) dX2_tellPart_81 (fun _ => rfl) (fun zu14 zk10 => ?_)
            refine j_top ((-1)) rfl ?_
            refine j_istore 84 cx [(5, .int ((-1))), (4, .int (nI 10)), (3, .int (nI (rV (nx t n r)))), (0, .ref ((ax 5))), (1, .ref ((ax 2))), (2, .int kd)] dX2_tellPart_84 (by decide) rfl ?_
            refine j_iload 86 cx 0 dX2_tellPart_86 rfl ?_
            refine j_if_ge_F 88 cx 93 dX2_tellPart_88 (by decide) (by decide) ?_
            refine j_iconst 91 cx 0 dX2_tellPart_91 (by decide) ?_
            have ze : (pIt t n r σ kd) = (false, (nx t n (nx t n (nx t n r))), σ) := by simp [pIt, pIt1, pIt2, opR, of_decide_eq_false zc1, hz9, zc2, of_decide_eq_false zc3, of_decide_eq_true zc4, zc5]
            exact fin zu9 _ _ _ _ dX2_tellPart_92 rfl (by rw [ze] <;> rfl) (by rw [ze] <;> rfl) (fun q => by rw [ze] at q ⊢; exact huzu9 q)
      · skip
        refine j_aload_n 41 cx 2 dX2_tellPart_41 rfl ?_
        refine j_callV_v 42 cx 0 [0, 1, 2] [] (fun zu15 => wRD ax (nI (cT (rK (nx t n (nx t n (nx t n r)))))) (nI (rB (nx t n (nx t n (nx t n r))))) (nI (rA (nx t n (nx t n (nx t n r))))) zu15 ++ (wTP ax (nI n) ++ ([((ax 8), .inl (gB G, 120, .inl (fun k => bt (t k))))] ++ wN G (ax 2) qt σ))) (c_X2_step (kl K) G ax t n (rA (nx t n (nx t n r))) (nI (cT (rK (nx t n (nx t n r))))) (nI (rB (nx t n (nx t n r)))) zu4 hT hn hr.nxt.nxt.an) gX2_tellPart_X2_step rfl rfl rfl ⟨rfl, by decide, by decide, rfl⟩ ⟨Nat.le_of_ble_eq_true rfl, Nat.le_of_ble_eq_true rfl⟩ ⟨Nat.zero_le _, Nat.zero_le _⟩ rfl (by decide) (ci := 1) 0 rfl rfl rfl rfl rfl (Nat.le_of_ble_eq_true rfl) dX2_tellPart_42 (fun _ => rfl) (fun zu15 zk11 => ?_)
        have huzu15 := zk11
        refine j_aload_n 45 cx 2 dX2_tellPart_45 rfl ?_
        refine j_iconst 46 cx 1 dX2_tellPart_46 (by decide) ?_
        refine j_bipush 47 cx 99 dX2_tellPart_47 (by decide) ?_
        rcases bcase (nOk (nx t n (nx t n (nx t n r))) 1 99) with zc6 | zc6
        · skip
          refine j_callV_i 49 cx 2 [0, 1, 2] [.int 1, .int 99] (fun zu17 => wRD ax (nI (cT (rK (nx t n (nx t n (nx t n (nx t n r))))))) (nI (rB (nx t n (nx t n (nx t n (nx t n r)))))) (nI (rA (nx t n (nx t n (nx t n (nx t n r)))))) zu17 ++ (wTP ax (nI n) ++ ([((ax 8), .inl (gB G, 120, .inl (fun k => bt (t k))))] ++ wN G (ax 2) qt σ))) (c_X2_takeNumber_t (kl K) G ax t n (nx t n (nx t n (nx t n r))) zu15 hT hn hr.nxt.nxt.nxt huzu15 1 99 (by decide) zc6) gX2_tellPart_X2_takeNumber rfl rfl rfl ⟨rfl, by decide, by decide, rfl⟩ ⟨Nat.le_of_ble_eq_true rfl, Nat.le_of_ble_eq_true rfl⟩ ⟨Nat.zero_le _, Nat.zero_le _⟩ rfl (by decide) (ci := 1) 0 rfl rfl rfl rfl rfl (Nat.le_of_ble_eq_true rfl) dX2_tellPart_49 (fun _ => rfl) (fun zu17 zk12 => ?_)
          have huzu17 := zk12
          have hvzu17 := nOk_t zc6
          refine j_top (nI (rV (nx t n (nx t n (nx t n r))))) rfl ?_
          refine j_istore 52 cx [(4, .int (nI (rV (nx t n (nx t n (nx t n r)))))), (3, .int (nI (rV (nx t n r)))), (0, .ref ((ax 5))), (1, .ref ((ax 2))), (2, .int kd)] dX2_tellPart_52 (by decide) rfl ?_
          refine j_iload 54 cx 0 dX2_tellPart_54 rfl ?_
          refine j_if_ge_T 56 cx 61 dX2_tellPart_56 (by decide) (nI_pos' (by omega)) ?_
          refine j_iconst 61 cx 0 dX2_tellPart_61 (by decide) ?_
          refine j_top (nI 0) rfl ?_
          refine j_istore 62 cx [(5, .int (nI 0)), (4, .int (nI (rV (nx t n (nx t n (nx t n r)))))), (3, .int (nI (rV (nx t n r)))), (0, .ref ((ax 5))), (1, .ref ((ax 2))), (2, .int kd)] dX2_tellPart_62 (by decide) rfl ?_
          refine j_aload_n 64 cx 3 dX2_tellPart_64 rfl ?_
          refine j_ldcS 65 cx (index := 69) (cx.e.2.2.2.2.2 7 (by decide)) dX2_tellPart_65 ?_
          refine j_callV_i 67 cx 1 [0, 1, 2] [.ref ((gK G 7))] (fun _ => wRD ax (nI (cT (rK (nx t n (nx t n (nx t n (nx t n r))))))) (nI (rB (nx t n (nx t n (nx t n (nx t n r)))))) (nI (rA (nx t n (nx t n (nx t n (nx t n r)))))) zu17 ++ (wTP ax (nI n) ++ ([((ax 8), .inl (gB G, 120, .inl (fun k => bt (t k))))] ++ wN G (ax 2) qt σ))) (c_X2_isAtHand (kl K) G ax t n (nx t n (nx t n (nx t n (nx t n r)))) zu17 hT hn hr.nxt.nxt.nxt.nxt 7 (by decide)) gX2_tellPart_X2_isAtHand rfl rfl rfl ⟨rfl, by decide, by decide, rfl⟩ ⟨Nat.le_of_ble_eq_true rfl, Nat.le_of_ble_eq_true rfl⟩ ⟨Nat.zero_le _, Nat.zero_le _⟩ rfl (by decide) (ci := 1) 0 rfl rfl rfl rfl rfl (Nat.le_of_ble_eq_true rfl) dX2_tellPart_67 (fun _ => rfl) (fun zu19 zk13 => ?_)
          refine j_top (bI (decide (rK (nx t n (nx t n (nx t n (nx t n r)))) = 7))) rfl ?_
          refine j_ifB_eq 70 cx 93 dX2_tellPart_70 (by decide) (fun zc7 => ?_) (fun zc7 => ?_)
          · skip
            refine j_aload_n 93 cx 4 dX2_tellPart_93 rfl ?_
            refine j_iload_n 94 cx 5 dX2_tellPart_94 rfl ?_
            refine j_iload 95 cx 1 dX2_tellPart_95 rfl ?_
            refine j_iload_n 97 cx 2 dX2_tellPart_97 rfl ?_
            refine j_iload 98 cx 0 dX2_tellPart_98 rfl ?_
            refine j_callV_i 100 cx 4 [3, 4, 5, 6, 7, 8, 9] [.int kd, .int (nI (rV (nx t n (nx t n (nx t n r))))), .int (nI (rV (nx t n r))), .int (nI 0)] (fun _ => wRD ax (nI (cT (rK (nx t n (nx t n (nx t n (nx t n r))))))) (nI (rB (nx t n (nx t n (nx t n (nx t n r)))))) (nI (rA (nx t n (nx t n (nx t n (nx t n r)))))) zu17 ++ (wTP ax (nI n) ++ ([((ax 8), .inl (gB G, 120, .inl (fun k => bt (t k))))] ++ wN G (ax 2) qt (addF σ kd (nI (rV (nx t n (nx t n (nx t n r))))) (nI (rV (nx t n r))) (nI 0))))) (c_X1_add (kl K) G (ax 2) qt σ kd (nI (rV (nx t n (nx t n (nx t n r))))) (nI (rV (nx t n r))) (nI 0) hI.sz hz8) gX2_tellPart_X1_add rfl rfl rfl ⟨rfl, by decide, by decide, rfl⟩ ⟨Nat.le_of_ble_eq_true rfl, Nat.le_of_ble_eq_true rfl⟩ ⟨Nat.zero_le _, Nat.zero_le _⟩ rfl (by decide) (ci := 0) 0 rfl rfl rfl rfl rfl (Nat.le_of_ble_eq_true rfl) dX2_tellPart_100 (fun _ => rfl) (fun zu20 zk14 => ?_)
            refine j_top (nI (szN σ)) rfl ?_
            refine j_pop 103 cx dX2_tellPart_103 rfl ?_
            refine j_iconst 104 cx 1 dX2_tellPart_104 (by decide) ?_
            have ze : (pIt t n r σ kd) = (true, (nx t n (nx t n (nx t n (nx t n r)))), (addF σ kd (nI (rV (nx t n (nx t n (nx t n r))))) (nI (rV (nx t n r))) (nI 0))) := by simp [pIt, pIt1, pIt2, opR, of_decide_eq_false zc1, hz9, zc2, of_decide_eq_true zc3, zc6, of_decide_eq_false zc7]
            exact fin zu17 _ _ _ _ dX2_tellPart_105 rfl (by rw [ze] <;> rfl) (by rw [ze] <;> rfl) (fun q => by rw [ze] at q ⊢; exact huzu17 q)
          · skip
            refine j_aload_n 73 cx 3 dX2_tellPart_73 rfl ?_
            refine j_callV_v 74 cx 0 [0, 1, 2] [] (fun zu21 => wRD ax (nI (cT (rK (nx t n (nx t n (nx t n (nx t n (nx t n r)))))))) (nI (rB (nx t n (nx t n (nx t n (nx t n (nx t n r))))))) (nI (rA (nx t n (nx t n (nx t n (nx t n (nx t n r))))))) zu21 ++ (wTP ax (nI n) ++ ([((ax 8), .inl (gB G, 120, .inl (fun k => bt (t k))))] ++ wN G (ax 2) qt σ))) (c_X2_step (kl K) G ax t n (rA (nx t n (nx t n (nx t n (nx t n r))))) (nI (cT (rK (nx t n (nx t n (nx t n (nx t n r))))))) (nI (rB (nx t n (nx t n (nx t n (nx t n r)))))) zu17 hT hn hr.nxt.nxt.nxt.nxt.an) gX2_tellPart_X2_step rfl rfl rfl ⟨rfl, by decide, by decide, rfl⟩ ⟨Nat.le_of_ble_eq_true rfl, Nat.le_of_ble_eq_true rfl⟩ ⟨Nat.zero_le _, Nat.zero_le _⟩ rfl (by decide) (ci := 1) 0 rfl rfl rfl rfl rfl (Nat.le_of_ble_eq_true rfl) dX2_tellPart_74 (fun _ => rfl) (fun zu21 zk15 => ?_)
            have huzu21 := zk15
            refine j_aload_n 77 cx 3 dX2_tellPart_77 rfl ?_
            refine j_iconst 78 cx 0 dX2_tellPart_78 (by decide) ?_
            refine j_bipush 79 cx 99 dX2_tellPart_79 (by decide) ?_
            rcases bcase (nOk (nx t n (nx t n (nx t n (nx t n (nx t n r))))) 0 99) with zc8 | zc8
            · skip
              refine j_callV_i 81 cx 2 [0, 1, 2] [.int 0, .int 99] (fun zu23 => wRD ax (nI (cT (rK (nx t n (nx t n (nx t n (nx t n (nx t n (nx t n r))))))))) (nI (rB (nx t n (nx t n (nx t n (nx t n (nx t n (nx t n r)))))))) (nI (rA (nx t n (nx t n (nx t n (nx t n (nx t n (nx t n r)))))))) zu23 ++ (wTP ax (nI n) ++ ([((ax 8), .inl (gB G, 120, .inl (fun k => bt (t k))))] ++ wN G (ax 2) qt σ))) (c_X2_takeNumber_t (kl K) G ax t n (nx t n (nx t n (nx t n (nx t n (nx t n r))))) zu21 hT hn hr.nxt.nxt.nxt.nxt.nxt huzu21 0 99 (by decide) zc8) gX2_tellPart_X2_takeNumber rfl rfl rfl ⟨rfl, by decide, by decide, rfl⟩ ⟨Nat.le_of_ble_eq_true rfl, Nat.le_of_ble_eq_true rfl⟩ ⟨Nat.zero_le _, Nat.zero_le _⟩ rfl (by decide) (ci := 1) 0 rfl rfl rfl rfl rfl (Nat.le_of_ble_eq_true rfl) dX2_tellPart_81 (fun _ => rfl) (fun zu23 zk16 => ?_)
              have huzu23 := zk16
              have hvzu23 := nOk_t zc8
              refine j_top (nI (rV (nx t n (nx t n (nx t n (nx t n (nx t n r))))))) rfl ?_
              refine j_istore 84 cx [(5, .int (nI (rV (nx t n (nx t n (nx t n (nx t n (nx t n r)))))))), (4, .int (nI (rV (nx t n (nx t n (nx t n r)))))), (3, .int (nI (rV (nx t n r)))), (0, .ref ((ax 5))), (1, .ref ((ax 2))), (2, .int kd)] dX2_tellPart_84 (by decide) rfl ?_
              refine j_iload 86 cx 0 dX2_tellPart_86 rfl ?_
              refine j_if_ge_T 88 cx 93 dX2_tellPart_88 (by decide) (nI_pos' (by omega)) ?_
              refine j_aload_n 93 cx 4 dX2_tellPart_93 rfl ?_
              refine j_iload_n 94 cx 5 dX2_tellPart_94 rfl ?_
              refine j_iload 95 cx 1 dX2_tellPart_95 rfl ?_
              refine j_iload_n 97 cx 2 dX2_tellPart_97 rfl ?_
              refine j_iload 98 cx 0 dX2_tellPart_98 rfl ?_
              refine j_callV_i 100 cx 4 [3, 4, 5, 6, 7, 8, 9] [.int kd, .int (nI (rV (nx t n (nx t n (nx t n r))))), .int (nI (rV (nx t n r))), .int (nI (rV (nx t n (nx t n (nx t n (nx t n (nx t n r)))))))] (fun _ => wRD ax (nI (cT (rK (nx t n (nx t n (nx t n (nx t n (nx t n (nx t n r))))))))) (nI (rB (nx t n (nx t n (nx t n (nx t n (nx t n (nx t n r)))))))) (nI (rA (nx t n (nx t n (nx t n (nx t n (nx t n (nx t n r)))))))) zu23 ++ (wTP ax (nI n) ++ ([((ax 8), .inl (gB G, 120, .inl (fun k => bt (t k))))] ++ wN G (ax 2) qt (addF σ kd (nI (rV (nx t n (nx t n (nx t n r))))) (nI (rV (nx t n r))) (nI (rV (nx t n (nx t n (nx t n (nx t n (nx t n r))))))))))) (c_X1_add (kl K) G (ax 2) qt σ kd (nI (rV (nx t n (nx t n (nx t n r))))) (nI (rV (nx t n r))) (nI (rV (nx t n (nx t n (nx t n (nx t n (nx t n r))))))) hI.sz hz8) gX2_tellPart_X1_add rfl rfl rfl ⟨rfl, by decide, by decide, rfl⟩ ⟨Nat.le_of_ble_eq_true rfl, Nat.le_of_ble_eq_true rfl⟩ ⟨Nat.zero_le _, Nat.zero_le _⟩ rfl (by decide) (ci := 0) 0 rfl rfl rfl rfl rfl (Nat.le_of_ble_eq_true rfl) dX2_tellPart_100 (fun _ => rfl) (fun zu25 zk17 => ?_)
              refine j_top (nI (szN σ)) rfl ?_
              refine j_pop 103 cx dX2_tellPart_103 rfl ?_
              refine j_iconst 104 cx 1 dX2_tellPart_104 (by decide) ?_
              have ze : (pIt t n r σ kd) = (true, (nx t n (nx t n (nx t n (nx t n (nx t n (nx t n r)))))), (addF σ kd (nI (rV (nx t n (nx t n (nx t n r))))) (nI (rV (nx t n r))) (nI (rV (nx t n (nx t n (nx t n (nx t n (nx t n r))))))))) := by simp [pIt, pIt1, pIt2, opR, of_decide_eq_false zc1, hz9, zc2, of_decide_eq_true zc3, zc6, of_decide_eq_true zc7, zc8]
              exact fin zu23 _ _ _ _ dX2_tellPart_105 rfl (by rw [ze] <;> rfl) (by rw [ze] <;> rfl) (fun q => by rw [ze] at q ⊢; exact huzu23 q)
            · skip
              refine j_callV_i 81 cx 2 [0, 1, 2] [.int 0, .int 99] (fun _ => wRD ax (nI (cT (rK (nx t n (nx t n (nx t n (nx t n (nx t n r)))))))) (nI (rB (nx t n (nx t n (nx t n (nx t n (nx t n r))))))) (nI (rA (nx t n (nx t n (nx t n (nx t n (nx t n r))))))) zu21 ++ (wTP ax (nI n) ++ ([((ax 8), .inl (gB G, 120, .inl (fun k => bt (t k))))] ++ wN G (ax 2) qt σ))) (c_X2_takeNumber_f (kl K) G ax t n (nx t n (nx t n (nx t n (nx t n (nx t n r))))) zu21 hT hn hr.nxt.nxt.nxt.nxt.nxt huzu21 0 99 (by decide) (by decide) zc8) gX2_tellPart_X2_takeNumber rfl rfl rfl ⟨rfl, by decide, by decide, rfl⟩ ⟨Nat.le_of_ble_eq_true rfl, Nat.le_of_ble_eq_true rfl⟩ ⟨Nat.zero_le _, Nat.zero_le _⟩ rfl (by decide) (ci := 1) 0 rfl rfl rfl rfl rfl (Nat.le_of_ble_eq_true rfl) dX2_tellPart_81 (fun _ => rfl) (fun zu26 zk18 => ?_)
              refine j_top ((-1)) rfl ?_
              refine j_istore 84 cx [(5, .int ((-1))), (4, .int (nI (rV (nx t n (nx t n (nx t n r)))))), (3, .int (nI (rV (nx t n r)))), (0, .ref ((ax 5))), (1, .ref ((ax 2))), (2, .int kd)] dX2_tellPart_84 (by decide) rfl ?_
              refine j_iload 86 cx 0 dX2_tellPart_86 rfl ?_
              refine j_if_ge_F 88 cx 93 dX2_tellPart_88 (by decide) (by decide) ?_
              refine j_iconst 91 cx 0 dX2_tellPart_91 (by decide) ?_
              have ze : (pIt t n r σ kd) = (false, (nx t n (nx t n (nx t n (nx t n (nx t n r))))), σ) := by simp [pIt, pIt1, pIt2, opR, of_decide_eq_false zc1, hz9, zc2, of_decide_eq_true zc3, zc6, of_decide_eq_true zc7, zc8]
              exact fin zu21 _ _ _ _ dX2_tellPart_92 rfl (by rw [ze] <;> rfl) (by rw [ze] <;> rfl) (fun q => by rw [ze] at q ⊢; exact huzu21 q)
        · skip
          refine j_callV_i 49 cx 2 [0, 1, 2] [.int 1, .int 99] (fun _ => wRD ax (nI (cT (rK (nx t n (nx t n (nx t n r)))))) (nI (rB (nx t n (nx t n (nx t n r))))) (nI (rA (nx t n (nx t n (nx t n r))))) zu15 ++ (wTP ax (nI n) ++ ([((ax 8), .inl (gB G, 120, .inl (fun k => bt (t k))))] ++ wN G (ax 2) qt σ))) (c_X2_takeNumber_f (kl K) G ax t n (nx t n (nx t n (nx t n r))) zu15 hT hn hr.nxt.nxt.nxt huzu15 1 99 (by decide) (by decide) zc6) gX2_tellPart_X2_takeNumber rfl rfl rfl ⟨rfl, by decide, by decide, rfl⟩ ⟨Nat.le_of_ble_eq_true rfl, Nat.le_of_ble_eq_true rfl⟩ ⟨Nat.zero_le _, Nat.zero_le _⟩ rfl (by decide) (ci := 1) 0 rfl rfl rfl rfl rfl (Nat.le_of_ble_eq_true rfl) dX2_tellPart_49 (fun _ => rfl) (fun zu27 zk19 => ?_)
          refine j_top ((-1)) rfl ?_
          refine j_istore 52 cx [(4, .int ((-1))), (3, .int (nI (rV (nx t n r)))), (0, .ref ((ax 5))), (1, .ref ((ax 2))), (2, .int kd)] dX2_tellPart_52 (by decide) rfl ?_
          refine j_iload 54 cx 0 dX2_tellPart_54 rfl ?_
          refine j_if_ge_F 56 cx 61 dX2_tellPart_56 (by decide) (by decide) ?_
          refine j_iconst 59 cx 0 dX2_tellPart_59 (by decide) ?_
          have ze : (pIt t n r σ kd) = (false, (nx t n (nx t n (nx t n r))), σ) := by simp [pIt, pIt1, pIt2, opR, of_decide_eq_false zc1, hz9, zc2, of_decide_eq_true zc3, zc6]
          exact fin zu15 _ _ _ _ dX2_tellPart_60 rfl (by rw [ze] <;> rfl) (by rw [ze] <;> rfl) (fun q => by rw [ze] at q ⊢; exact huzu15 q)
    · skip
      refine j_callV_i 18 cx 2 [0, 1, 2] [.int 0, .int 9999] (fun _ => wRD ax (nI (cT (rK (nx t n r)))) (nI (rB (nx t n r))) (nI (rA (nx t n r))) zu2 ++ (wTP ax (nI n) ++ ([((ax 8), .inl (gB G, 120, .inl (fun k => bt (t k))))] ++ wN G (ax 2) qt σ))) (c_X2_takeNumber_f (kl K) G ax t n (nx t n r) zu2 hT hn hr.nxt huzu2 0 9999 (by decide) (by decide) zc2) gX2_tellPart_X2_takeNumber rfl rfl rfl ⟨rfl, by decide, by decide, rfl⟩ ⟨Nat.le_of_ble_eq_true rfl, Nat.le_of_ble_eq_true rfl⟩ ⟨Nat.zero_le _, Nat.zero_le _⟩ rfl (by decide) (ci := 1) 0 rfl rfl rfl rfl rfl (Nat.le_of_ble_eq_true rfl) dX2_tellPart_18 (fun _ => rfl) (fun zu28 zk20 => ?_)
      refine j_top ((-1)) rfl ?_
      refine j_istore_n 21 cx [(3, .int ((-1))), (0, .ref ((ax 5))), (1, .ref ((ax 2))), (2, .int kd)] dX2_tellPart_21 (by decide) rfl ?_
      refine j_iload_n 22 cx 0 dX2_tellPart_22 rfl ?_
      refine j_if_ge_F 23 cx 28 dX2_tellPart_23 (by decide) (by decide) ?_
      refine j_iconst 26 cx 0 dX2_tellPart_26 (by decide) ?_
      have ze : (pIt t n r σ kd) = (false, (nx t n r), σ) := by simp [pIt, pIt1, pIt2, opR, of_decide_eq_false zc1, hz9, zc2]
      exact fin zu2 _ _ _ _ dX2_tellPart_27 rfl (by rw [ze] <;> rfl) (by rw [ze] <;> rfl) (fun q => by rw [ze] at q ⊢; exact huzu2 q)
  · skip
    have hz9 : szN σ = 8 := by have h1 := hI.sz8; have h2 := of_decide_eq_true zc1; omega
    refine j_iconst 7 cx 0 dX2_tellPart_7 (by decide) ?_
    have ze : (pIt t n r σ kd) = (false, r, σ) := by simp [pIt, pIt1, pIt2, opR, of_decide_eq_true zc1, hz9]
    exact fin nu _ _ _ _ dX2_tellPart_8 rfl (by rw [ze] <;> rfl) (by rw [ze] <;> rfl) (fun q => by rw [ze] at q ⊢; exact hu q)
set_option maxRecDepth 100000 in
set_option maxHeartbeats 4000000 in
theorem c_X2_tellItem (l : Launch) (G : pG) (ax : Nat → Nat) (t : TF) (n : Nat) (r : RT) (nu : Int32) (hT : okT t) (hn : n ≤ 120) (hr : RW t n r) (hu : rK r = 20 → nu = nI (min 10000 (rV r))) (qt : Nat → Nat) (σ : Nu) (hI : Inv σ) : KI l G yX2_tellItem wsX2_tellItem ({ frames := 7, cells := 0, slots := 0, locals := 153 } : Room) [.ref ((ax 5)), .ref ((ax 2))] (wRD ax (nI (cT (rK r))) (nI (rB r)) (nI (rA r)) nu ++ (wTP ax (nI n) ++ ([((ax 8), .inl (gB G, 120, .inl (fun k => bt (t k))))] ++ wN G (ax 2) qt σ))) (S := Int32) (fun u => rK (iIt t n r σ).2.1 = 20 → u = nI (min 10000 (rV (iIt t n r σ).2.1))) (fun u => bI (iIt t n r σ).1) (fun u => wRD ax (nI (cT (rK (iIt t n r σ).2.1))) (nI (rB (iIt t n r σ).2.1)) (nI (rA (iIt t n r σ).2.1)) u ++ (wTP ax (nI n) ++ ([((ax 8), .inl (gB G, 120, .inl (fun k => bt (t k))))] ++ wN G (ax 2) qt (iIt t n r σ).2.2))) := by
  have hkk := hr.kk
  refine ki_of [(0, .ref ((ax 5))), (1, .ref ((ax 2)))] (own := RX2) (cc := cX2_tellItem) (nL := 4) (by decide +kernel) rfl rfl (Nat.le_of_ble_eq_true rfl) rfl (fun _ => rfl) (fun K cx fin => ?_)
  refine j_aload_n 0 cx 0 dX2_tellItem_0 rfl ?_
  rcases bcase (decide (rK r ≤ 5)) with zc1 | zc1
  · skip
    refine j_callV_i 1 cx 0 [0, 1, 2] [] (fun _ => wRD ax (nI (cT (rK r))) (nI (rB r)) (nI (rA r)) nu ++ (wTP ax (nI n) ++ ([((ax 8), .inl (gB G, 120, .inl (fun k => bt (t k))))] ++ wN G (ax 2) qt σ))) (c_X2_kindAtHand (kl K) G ax t n r nu hT hn hr) gX2_tellItem_X2_kindAtHand rfl rfl rfl ⟨rfl, by decide, by decide, rfl⟩ ⟨Nat.le_of_ble_eq_true rfl, Nat.le_of_ble_eq_true rfl⟩ ⟨Nat.zero_le _, Nat.zero_le _⟩ rfl (by decide) (ci := 1) 0 rfl rfl rfl rfl rfl (Nat.le_of_ble_eq_true rfl) dX2_tellItem_1 (fun _ => rfl) (fun zu1 zk1 => ?_)
    refine j_top (kaF (rK r)) rfl ?_
    refine j_top (nI (rK r)) (if_pos (of_decide_eq_true zc1)) ?_
    refine j_istore_n 4 cx [(2, .int (nI (rK r))), (0, .ref ((ax 5))), (1, .ref ((ax 2)))] dX2_tellItem_4 (by decide) rfl ?_
    refine j_iload_n 5 cx 0 dX2_tellItem_5 rfl ?_
    refine j_if_lt_F 6 cx 16 dX2_tellItem_6 (by decide) (nI_pos (by omega)) ?_
    refine j_aload_n 9 cx 1 dX2_tellItem_9 rfl ?_
    refine j_aload_n 10 cx 2 dX2_tellItem_10 rfl ?_
    refine j_iload_n 11 cx 0 dX2_tellItem_11 rfl ?_
    refine j_callV_i 12 cx 2 [0, 1, 2, 3, 4, 5, 6, 7, 8, 9] [.ref ((ax 2)), .int (nI (rK r))] (fun zu2 => wRD ax (nI (cT (rK (pIt t n r σ (nI (rK r))).2.1))) (nI (rB (pIt t n r σ (nI (rK r))).2.1)) (nI (rA (pIt t n r σ (nI (rK r))).2.1)) zu2 ++ (wTP ax (nI n) ++ ([((ax 8), .inl (gB G, 120, .inl (fun k => bt (t k))))] ++ wN G (ax 2) qt (pIt t n r σ (nI (rK r))).2.2))) (c_X2_tellPart (kl K) G ax t n r nu hT hn hr hu qt σ hI (nI (rK r))) gX2_tellItem_X2_tellPart rfl rfl rfl ⟨rfl, by decide, by decide, rfl⟩ ⟨Nat.le_of_ble_eq_true rfl, Nat.le_of_ble_eq_true rfl⟩ ⟨Nat.zero_le _, Nat.zero_le _⟩ rfl (by decide) (ci := 1) 0 rfl rfl rfl rfl rfl (Nat.le_of_ble_eq_true rfl) dX2_tellItem_12 (fun _ => rfl) (fun zu2 zk2 => ?_)
    have huzu2 := zk2
    refine j_top (bI ((pIt t n r σ (nI (rK r))).1)) rfl ?_
    have hd0 := of_decide_eq_true zc1
    have ze : (iIt t n r σ) = (pIt t n r σ (nI (rK r))) := by unfold iIt; rw [if_pos hd0]
    exact fin zu2 _ _ _ _ dX2_tellItem_15 (bI_nar _) (by rw [ze] <;> rfl) (by rw [ze] <;> rfl) (fun q => by rw [ze] at q ⊢; exact huzu2 q)
  · skip
    refine j_callV_i 1 cx 0 [0, 1, 2] [] (fun _ => wRD ax (nI (cT (rK r))) (nI (rB r)) (nI (rA r)) nu ++ (wTP ax (nI n) ++ ([((ax 8), .inl (gB G, 120, .inl (fun k => bt (t k))))] ++ wN G (ax 2) qt σ))) (c_X2_kindAtHand (kl K) G ax t n r nu hT hn hr) gX2_tellItem_X2_kindAtHand rfl rfl rfl ⟨rfl, by decide, by decide, rfl⟩ ⟨Nat.le_of_ble_eq_true rfl, Nat.le_of_ble_eq_true rfl⟩ ⟨Nat.zero_le _, Nat.zero_le _⟩ rfl (by decide) (ci := 1) 0 rfl rfl rfl rfl rfl (Nat.le_of_ble_eq_true rfl) dX2_tellItem_1 (fun _ => rfl) (fun zu4 zk3 => ?_)
    refine j_top (kaF (rK r)) rfl ?_
    refine j_top ((-1)) (if_neg (of_decide_eq_false zc1)) ?_
    refine j_istore_n 4 cx [(2, .int ((-1))), (0, .ref ((ax 5))), (1, .ref ((ax 2)))] dX2_tellItem_4 (by decide) rfl ?_
    refine j_iload_n 5 cx 0 dX2_tellItem_5 rfl ?_
    refine j_if_lt_T 6 cx 16 dX2_tellItem_6 (by decide) (by decide) ?_
    refine j_aload_n 16 cx 1 dX2_tellItem_16 rfl ?_
    refine j_ldcS 17 cx (index := 42) (cx.e.2.2.2.2.2 8 (by decide)) dX2_tellItem_17 ?_
    refine j_callV_i 19 cx 1 [0, 1, 2] [.ref ((gK G 8))] (fun _ => wRD ax (nI (cT (rK r))) (nI (rB r)) (nI (rA r)) nu ++ (wTP ax (nI n) ++ ([((ax 8), .inl (gB G, 120, .inl (fun k => bt (t k))))] ++ wN G (ax 2) qt σ))) (c_X2_isAtHand (kl K) G ax t n r nu hT hn hr 8 (by decide)) gX2_tellItem_X2_isAtHand rfl rfl rfl ⟨rfl, by decide, by decide, rfl⟩ ⟨Nat.le_of_ble_eq_true rfl, Nat.le_of_ble_eq_true rfl⟩ ⟨Nat.zero_le _, Nat.zero_le _⟩ rfl (by decide) (ci := 1) 0 rfl rfl rfl rfl rfl (Nat.le_of_ble_eq_true rfl) dX2_tellItem_19 (fun _ => rfl) (fun zu5 zk4 => ?_)
    refine j_top (bI (decide (rK r = 8))) rfl ?_
    refine j_ifB_eq 22 cx 32 dX2_tellItem_22 (by decide) (fun zc2 => ?_) (fun zc2 => ?_)
    · skip
      refine j_aload_n 32 cx 1 dX2_tellItem_32 rfl ?_
      refine j_ldcS 33 cx (index := 51) (cx.e.2.2.2.2.2 9 (by decide)) dX2_tellItem_33 ?_
      refine j_callV_i 35 cx 1 [0, 1, 2] [.ref ((gK G 9))] (fun _ => wRD ax (nI (cT (rK r))) (nI (rB r)) (nI (rA r)) nu ++ (wTP ax (nI n) ++ ([((ax 8), .inl (gB G, 120, .inl (fun k => bt (t k))))] ++ wN G (ax 2) qt σ))) (c_X2_isAtHand (kl K) G ax t n r nu hT hn hr 9 (by decide)) gX2_tellItem_X2_isAtHand rfl rfl rfl ⟨rfl, by decide, by decide, rfl⟩ ⟨Nat.le_of_ble_eq_true rfl, Nat.le_of_ble_eq_true rfl⟩ ⟨Nat.zero_le _, Nat.zero_le _⟩ rfl (by decide) (ci := 1) 0 rfl rfl rfl rfl rfl (Nat.le_of_ble_eq_true rfl) dX2_tellItem_35 (fun _ => rfl) (fun zu6 zk5 => ?_)
      refine j_top (bI (decide (rK r = 9))) rfl ?_
      refine j_ifB_eq 38 cx 48 dX2_tellItem_38 (by decide) (fun zc3 => ?_) (fun zc3 => ?_)
      · skip
        refine j_aload_n 48 cx 1 dX2_tellItem_48 rfl ?_
        refine j_ldcS 49 cx (index := 53) (cx.e.2.2.2.2.2 10 (by decide)) dX2_tellItem_49 ?_
        refine j_callV_i 51 cx 1 [0, 1, 2] [.ref ((gK G 10))] (fun _ => wRD ax (nI (cT (rK r))) (nI (rB r)) (nI (rA r)) nu ++ (wTP ax (nI n) ++ ([((ax 8), .inl (gB G, 120, .inl (fun k => bt (t k))))] ++ wN G (ax 2) qt σ))) (c_X2_isAtHand (kl K) G ax t n r nu hT hn hr 10 (by decide)) gX2_tellItem_X2_isAtHand rfl rfl rfl ⟨rfl, by decide, by decide, rfl⟩ ⟨Nat.le_of_ble_eq_true rfl, Nat.le_of_ble_eq_true rfl⟩ ⟨Nat.zero_le _, Nat.zero_le _⟩ rfl (by decide) (ci := 1) 0 rfl rfl rfl rfl rfl (Nat.le_of_ble_eq_true rfl) dX2_tellItem_51 (fun _ => rfl) (fun zu7 zk6 => ?_)
        refine j_top (bI (decide (rK r = 10))) rfl ?_
        refine j_ifB_eq 54 cx 82 dX2_tellItem_54 (by decide) (fun zc4 => ?_) (fun zc4 => ?_)
        · skip
          refine j_iconst 82 cx 0 dX2_tellItem_82 (by decide) ?_
          have hd0 := of_decide_eq_false zc1
          have hd1 := of_decide_eq_false zc2
          have hd2 := of_decide_eq_false zc3
          have hd3 := of_decide_eq_false zc4
          have ze : (iIt t n r σ) = (false, r, σ) := by unfold iIt; rw [if_neg hd0, if_neg hd1, if_neg hd2, if_neg hd3]
          exact fin nu _ _ _ _ dX2_tellItem_83 rfl (by rw [ze] <;> rfl) (by rw [ze] <;> rfl) (fun q => by rw [ze] at q ⊢; exact hu q)
        · skip
          refine j_aload_n 57 cx 1 dX2_tellItem_57 rfl ?_
          refine j_callV_v 58 cx 0 [0, 1, 2] [] (fun zu8 => wRD ax (nI (cT (rK (nx t n r)))) (nI (rB (nx t n r))) (nI (rA (nx t n r))) zu8 ++ (wTP ax (nI n) ++ ([((ax 8), .inl (gB G, 120, .inl (fun k => bt (t k))))] ++ wN G (ax 2) qt σ))) (c_X2_step (kl K) G ax t n (rA r) (nI (cT (rK r))) (nI (rB r)) nu hT hn hr.an) gX2_tellItem_X2_step rfl rfl rfl ⟨rfl, by decide, by decide, rfl⟩ ⟨Nat.le_of_ble_eq_true rfl, Nat.le_of_ble_eq_true rfl⟩ ⟨Nat.zero_le _, Nat.zero_le _⟩ rfl (by decide) (ci := 1) 0 rfl rfl rfl rfl rfl (Nat.le_of_ble_eq_true rfl) dX2_tellItem_58 (fun _ => rfl) (fun zu8 zk7 => ?_)
          have huzu8 := zk7
          refine j_aload_n 61 cx 1 dX2_tellItem_61 rfl ?_
          refine j_iconst 62 cx 0 dX2_tellItem_62 (by decide) ?_
          refine j_bipush 63 cx 99 dX2_tellItem_63 (by decide) ?_
          rcases bcase (nOk (nx t n r) 0 99) with zc5 | zc5
          · skip
            refine j_callV_i 65 cx 2 [0, 1, 2] [.int 0, .int 99] (fun zu10 => wRD ax (nI (cT (rK (nx t n (nx t n r))))) (nI (rB (nx t n (nx t n r)))) (nI (rA (nx t n (nx t n r)))) zu10 ++ (wTP ax (nI n) ++ ([((ax 8), .inl (gB G, 120, .inl (fun k => bt (t k))))] ++ wN G (ax 2) qt σ))) (c_X2_takeNumber_t (kl K) G ax t n (nx t n r) zu8 hT hn hr.nxt huzu8 0 99 (by decide) zc5) gX2_tellItem_X2_takeNumber rfl rfl rfl ⟨rfl, by decide, by decide, rfl⟩ ⟨Nat.le_of_ble_eq_true rfl, Nat.le_of_ble_eq_true rfl⟩ ⟨Nat.zero_le _, Nat.zero_le _⟩ rfl (by decide) (ci := 1) 0 rfl rfl rfl rfl rfl (Nat.le_of_ble_eq_true rfl) dX2_tellItem_65 (fun _ => rfl) (fun zu10 zk8 => ?_)
            have huzu10 := zk8
            have hvzu10 := nOk_t zc5
            refine j_top (nI (rV (nx t n r))) rfl ?_
            refine j_istore_n 68 cx [(3, .int (nI (rV (nx t n r)))), (2, .int ((-1))), (0, .ref ((ax 5))), (1, .ref ((ax 2)))] dX2_tellItem_68 (by decide) rfl ?_
            refine j_iload_n 69 cx 0 dX2_tellItem_69 rfl ?_
            refine j_if_ge_T 70 cx 75 dX2_tellItem_70 (by decide) (nI_pos' (by omega)) ?_
            refine j_aload_n 75 cx 3 dX2_tellItem_75 rfl ?_
            refine j_iload_n 76 cx 0 dX2_tellItem_76 rfl ?_
            refine j_put 77 cx 3 1 (wRD ax (nI (cT (rK (nx t n (nx t n r))))) (nI (rB (nx t n (nx t n r)))) (nI (rA (nx t n (nx t n r)))) zu10 ++ (wTP ax (nI n) ++ ([((ax 8), .inl (gB G, 120, .inl (fun k => bt (t k))))] ++ wN G (ax 2) qt (up2 σ 0 1 (nI (rV (nx t n r))))))) (T := TX1) (ty0 := tyX1) (fun _ h => List.mem_cons_of_mem _ (List.mem_append_left _ (List.mem_append_left _ (List.mem_append_right _ (h))))) (List.mem_of_getElem? (i := 1) rfl) (ci := 0) rfl (by decide) rfl tyX1_ok nmX1 rfl rfl rfl rfl (Nat.le_of_ble_eq_true rfl) rfl dX2_tellItem_77 ?_
            refine j_iconst 80 cx 1 dX2_tellItem_80 (by decide) ?_
            have hd0 := of_decide_eq_false zc1
            have hd1 := of_decide_eq_false zc2
            have hd2 := of_decide_eq_false zc3
            have hd3 := of_decide_eq_true zc4
            have ze : (iIt t n r σ) = (true, (nx t n (nx t n r)), (up2 σ 0 1 (nI (rV (nx t n r))))) := by unfold iIt; rw [if_neg hd0, if_neg hd1, if_neg hd2, if_pos hd3]; unfold wIt; rw [if_pos zc5]
            exact fin zu10 _ _ _ _ dX2_tellItem_81 rfl (by rw [ze] <;> rfl) (by rw [ze] <;> rfl) (fun q => by rw [ze] at q ⊢; exact huzu10 q)
          · skip
            refine j_callV_i 65 cx 2 [0, 1, 2] [.int 0, .int 99] (fun _ => wRD ax (nI (cT (rK (nx t n r)))) (nI (rB (nx t n r))) (nI (rA (nx t n r))) zu8 ++ (wTP ax (nI n) ++ ([((ax 8), .inl (gB G, 120, .inl (fun k => bt (t k))))] ++ wN G (ax 2) qt σ))) (c_X2_takeNumber_f (kl K) G ax t n (nx t n r) zu8 hT hn hr.nxt huzu8 0 99 (by decide) (by decide) zc5) gX2_tellItem_X2_takeNumber rfl rfl rfl ⟨rfl, by decide, by decide, rfl⟩ ⟨Nat.le_of_ble_eq_true rfl, Nat.le_of_ble_eq_true rfl⟩ ⟨Nat.zero_le _, Nat.zero_le _⟩ rfl (by decide) (ci := 1) 0 rfl rfl rfl rfl rfl (Nat.le_of_ble_eq_true rfl) dX2_tellItem_65 (fun _ => rfl) (fun zu12 zk9 => ?_)
            refine j_top ((-1)) rfl ?_
            refine j_istore_n 68 cx [(3, .int ((-1))), (2, .int ((-1))), (0, .ref ((ax 5))), (1, .ref ((ax 2)))] dX2_tellItem_68 (by decide) rfl ?_
            refine j_iload_n 69 cx 0 dX2_tellItem_69 rfl ?_
            refine j_if_ge_F 70 cx 75 dX2_tellItem_70 (by decide) (by decide) ?_
            refine j_iconst 73 cx 0 dX2_tellItem_73 (by decide) ?_
            have hd0 := of_decide_eq_false zc1
            have hd1 := of_decide_eq_false zc2
            have hd2 := of_decide_eq_false zc3
            have hd3 := of_decide_eq_true zc4
            have ze : (iIt t n r σ) = (false, (nx t n r), σ) := by unfold iIt; rw [if_neg hd0, if_neg hd1, if_neg hd2, if_pos hd3]; unfold wIt; rw [if_neg (by rw [zc5]; decide)]
            exact fin zu8 _ _ _ _ dX2_tellItem_74 rfl (by rw [ze] <;> rfl) (by rw [ze] <;> rfl) (fun q => by rw [ze] at q ⊢; exact huzu8 q)
      · skip
        refine j_aload_n 41 cx 1 dX2_tellItem_41 rfl ?_
        refine j_aload_n 42 cx 2 dX2_tellItem_42 rfl ?_
        refine j_iconst 43 cx 0 dX2_tellItem_43 (by decide) ?_
        refine j_callV_i 44 cx 2 [0, 1, 2, 3, 4, 5, 6, 7, 8, 9] [.ref ((ax 2)), .int 0] (fun zu13 => wRD ax (nI (cT (rK (dIt t n r σ 0).2.1))) (nI (rB (dIt t n r σ 0).2.1)) (nI (rA (dIt t n r σ 0).2.1)) zu13 ++ (wTP ax (nI n) ++ ([((ax 8), .inl (gB G, 120, .inl (fun k => bt (t k))))] ++ wN G (ax 2) qt (dIt t n r σ 0).2.2))) (c_X2_tellDay (kl K) G ax t n r nu hT hn hr hu qt σ 0) gX2_tellItem_X2_tellDay rfl rfl rfl ⟨rfl, by decide, by decide, rfl⟩ ⟨Nat.le_of_ble_eq_true rfl, Nat.le_of_ble_eq_true rfl⟩ ⟨Nat.zero_le _, Nat.zero_le _⟩ rfl (by decide) (ci := 1) 0 rfl rfl rfl rfl rfl (Nat.le_of_ble_eq_true rfl) dX2_tellItem_44 (fun _ => rfl) (fun zu13 zk10 => ?_)
        have huzu13 := zk10
        refine j_top (bI ((dIt t n r σ 0).1)) rfl ?_
        have hd0 := of_decide_eq_false zc1
        have hd1 := of_decide_eq_false zc2
        have hd2 := of_decide_eq_true zc3
        have ze : (iIt t n r σ) = (dIt t n r σ 0) := by unfold iIt; rw [if_neg hd0, if_neg hd1, if_pos hd2]
        exact fin zu13 _ _ _ _ dX2_tellItem_47 (bI_nar _) (by rw [ze] <;> rfl) (by rw [ze] <;> rfl) (fun q => by rw [ze] at q ⊢; exact huzu13 q)
    · skip
      refine j_aload_n 25 cx 1 dX2_tellItem_25 rfl ?_
      refine j_aload_n 26 cx 2 dX2_tellItem_26 rfl ?_
      refine j_iconst 27 cx 1 dX2_tellItem_27 (by decide) ?_
      refine j_callV_i 28 cx 2 [0, 1, 2, 3, 4, 5, 6, 7, 8, 9] [.ref ((ax 2)), .int 1] (fun zu15 => wRD ax (nI (cT (rK (dIt t n r σ 1).2.1))) (nI (rB (dIt t n r σ 1).2.1)) (nI (rA (dIt t n r σ 1).2.1)) zu15 ++ (wTP ax (nI n) ++ ([((ax 8), .inl (gB G, 120, .inl (fun k => bt (t k))))] ++ wN G (ax 2) qt (dIt t n r σ 1).2.2))) (c_X2_tellDay (kl K) G ax t n r nu hT hn hr hu qt σ 1) gX2_tellItem_X2_tellDay rfl rfl rfl ⟨rfl, by decide, by decide, rfl⟩ ⟨Nat.le_of_ble_eq_true rfl, Nat.le_of_ble_eq_true rfl⟩ ⟨Nat.zero_le _, Nat.zero_le _⟩ rfl (by decide) (ci := 1) 0 rfl rfl rfl rfl rfl (Nat.le_of_ble_eq_true rfl) dX2_tellItem_28 (fun _ => rfl) (fun zu15 zk11 => ?_)
      have huzu15 := zk11
      refine j_top (bI ((dIt t n r σ 1).1)) rfl ?_
      have hd0 := of_decide_eq_false zc1
      have hd1 := of_decide_eq_true zc2
      have ze : (iIt t n r σ) = (dIt t n r σ 1) := by unfold iIt; rw [if_neg hd0, if_pos hd1]
      exact fin zu15 _ _ _ _ dX2_tellItem_31 (bI_nar _) (by rw [ze] <;> rfl) (by rw [ze] <;> rfl) (fun q => by rw [ze] at q ⊢; exact huzu15 q)
set_option maxRecDepth 100000 in
set_option maxHeartbeats 4000000 in
theorem c_X2_tell (l : Launch) (G : pG) (ax : Nat → Nat) (t : TF) (n : Nat) (tk st be nu : Int32) (hT : okT t) (hn : n ≤ 120) (qt : Nat → Nat) (σ0 : Nu) (hI0 : Inv σ0) : KI l G yX2_tell wsX2_tell ({ frames := 8, cells := 0, slots := 0, locals := 176 } : Room) [.ref ((ax 5)), .ref ((ax 2))] (wRD ax tk st be nu ++ (wTP ax (nI n) ++ ([((ax 8), .inl (gB G, 120, .inl (fun k => bt (t k))))] ++ wN G (ax 2) qt σ0))) (S := (Int32 × Int32 × Int32 × Int32 × Nu)) (fun u => ¬ (tx0 t n σ0).1 < 0 → u.2.2.2.2 = (tx0 t n σ0).2) (fun u => (tx0 t n σ0).1) (fun u => wRD ax (u.1) (u.2.1) (u.2.2.1) (u.2.2.2.1) ++ (wTP ax (nI n) ++ ([((ax 8), .inl (gB G, 120, .inl (fun k => bt (t k))))] ++ wN G (ax 2) qt u.2.2.2.2))) := by
  refine ki_of [(0, .ref ((ax 5))), (1, .ref ((ax 2)))] (own := RX2) (cc := cX2_tell) (nL := 3) (by decide +kernel) rfl rfl (Nat.le_of_ble_eq_true rfl) rfl (fun _ => rfl) (fun K cx fin => ?_)
  refine j_aload_n 0 cx 0 dX2_tell_0 rfl ?_
  refine j_iconst 1 cx 0 dX2_tell_1 (by decide) ?_
  refine j_put 2 cx 0 3 (wRD ax tk st 0 nu ++ (wTP ax (nI n) ++ ([((ax 8), .inl (gB G, 120, .inl (fun k => bt (t k))))] ++ wN G (ax 2) qt σ0))) (T := TX2) (ty0 := tyX2) (fun _ h => List.mem_cons_of_mem _ (List.mem_append_left _ (List.mem_append_left _ (List.mem_append_right _ (h))))) (List.mem_of_getElem? (i := 1) rfl) (ci := 1) rfl (by decide) rfl tyX2_ok nmX2 rfl rfl rfl rfl (Nat.le_of_ble_eq_true rfl) rfl dX2_tell_2 ?_
  refine j_aload_n 5 cx 0 dX2_tell_5 rfl ?_
  refine j_callV_v 6 cx 0 [0, 1, 2] [] (fun zu1 => wRD ax (nI (cT (rK (rdT t n 0)))) (nI (rB (rdT t n 0))) (nI (rA (rdT t n 0))) zu1 ++ (wTP ax (nI n) ++ ([((ax 8), .inl (gB G, 120, .inl (fun k => bt (t k))))] ++ wN G (ax 2) qt σ0))) (c_X2_step (kl K) G ax t n 0 tk st nu hT hn (Nat.zero_le _)) gX2_tell_X2_step rfl rfl rfl ⟨rfl, by decide, by decide, rfl⟩ ⟨Nat.le_of_ble_eq_true rfl, Nat.le_of_ble_eq_true rfl⟩ ⟨Nat.zero_le _, Nat.zero_le _⟩ rfl (by decide) (ci := 1) 0 rfl rfl rfl rfl rfl (Nat.le_of_ble_eq_true rfl) dX2_tell_6 (fun _ => rfl) (fun zu1 zk1 => ?_)
  have huzu1 := zk1
  refine j_iconst 9 cx 1 dX2_tell_9 (by decide) ?_
  refine j_istore_n 10 cx [(2, .int 1), (0, .ref ((ax 5))), (1, .ref ((ax 2)))] dX2_tell_10 (by decide) rfl ?_
  have L11 : ∀ d : Nat, ∀ (i : Nat) (r : RT) (σ : Nu) (zn : Int32), (i + d = 120) → (1 ≤ i) → (RW t n r) → (Inv σ) → (rK r = 20 → zn = nI (min 10000 (rV r))) → (2 * i ≤ rA r + 2) → ((tx0 t n σ0) = txT t n σ0 d i r σ) → JJ G K 0 0 (wRD ax (nI (cT (rK r))) (nI (rB r)) (nI (rA r)) zn ++ (wTP ax (nI n) ++ ([((ax 8), .inl (gB G, 120, .inl (fun k => bt (t k))))] ++ wN G (ax 2) qt σ))) [(2, .int (nI i)), (1, .ref ((ax 2))), (0, .ref ((ax 5)))] 11 [] := by
    intro d
    induction d with
    | zero =>
      intro i r σ zn hi hi1 hr hI hu hB hT9
      exact absurd hr.an (by omega)
    | succ d ih11 =>
      intro i r σ zn hi hi1 hr hI hu hB hT9
      refine j_iload_n 11 cx 0 dX2_tell_11 rfl ?_
      refine j_bipush 12 cx 120 dX2_tell_12 (by decide) ?_
      refine j_icmp_gt_F 14 cx 66 dX2_tell_14 (by decide) (nI_nlt (b := i) (a := 120) (by omega) (by omega)) ?_
      refine j_aload_n 17 cx 2 dX2_tell_17 rfl ?_
      refine j_aload_n 18 cx 1 dX2_tell_18 rfl ?_
      refine j_callV_i 19 cx 1 [0, 1, 2, 3, 4, 5, 6, 7, 8, 9] [.ref ((ax 2))] (fun zu3 => wRD ax (nI (cT (rK (iIt t n r σ).2.1))) (nI (rB (iIt t n r σ).2.1)) (nI (rA (iIt t n r σ).2.1)) zu3 ++ (wTP ax (nI n) ++ ([((ax 8), .inl (gB G, 120, .inl (fun k => bt (t k))))] ++ wN G (ax 2) qt (iIt t n r σ).2.2))) (c_X2_tellItem (kl K) G ax t n r zn hT hn hr hu qt σ hI) gX2_tell_X2_tellItem rfl rfl rfl ⟨rfl, by decide, by decide, rfl⟩ ⟨Nat.le_of_ble_eq_true rfl, Nat.le_of_ble_eq_true rfl⟩ ⟨Nat.zero_le _, Nat.zero_le _⟩ rfl (by decide) (ci := 1) 0 rfl rfl rfl rfl rfl (Nat.le_of_ble_eq_true rfl) dX2_tell_19 (fun _ => rfl) (fun zu3 zk2 => ?_)
      have huzu3 := zk2
      refine j_top (bI ((iIt t n r σ).1)) rfl ?_
      refine j_ifB_ne 22 cx 32 dX2_tell_22 (by decide) (fun zc1 => ?_) (fun zc1 => ?_)
      · skip
        refine j_aload_n 32 cx 2 dX2_tell_32 rfl ?_
        refine j_get 33 cx 0 1 (T := TX2) (v := .int (nI (cT (rK (iIt t n r σ).2.1)))) (fun _ h => List.mem_cons_of_mem _ (List.mem_append_left _ (List.mem_append_left _ (List.mem_append_right _ (h))))) (List.mem_of_getElem? (i := 3) rfl) (ci := 1) rfl (by decide) rfl rfl rfl dX2_tell_33 ?_
        refine j_if_ne 36 cx 41 dX2_tell_36 (by decide) (fun zc2 => ?_) (fun zc2 => ?_)
        · skip
          refine j_aload_n 41 cx 2 dX2_tell_41 rfl ?_
          refine j_get 42 cx 0 1 (T := TX2) (v := .int (nI (cT (rK (iIt t n r σ).2.1)))) (fun _ h => List.mem_cons_of_mem _ (List.mem_append_left _ (List.mem_append_left _ (List.mem_append_right _ (h))))) (List.mem_of_getElem? (i := 3) rfl) (ci := 1) rfl (by decide) rfl rfl rfl dX2_tell_42 ?_
          refine j_iconst 45 cx 3 dX2_tell_45 (by decide) ?_
          refine j_icmp_eq 46 cx 56 dX2_tell_46 (by decide) (fun zc3 => ?_) (fun zc3 => ?_)
          · skip
            refine j_aload_n 56 cx 2 dX2_tell_56 rfl ?_
            refine j_callV_v 57 cx 0 [0, 1, 2] [] (fun zu5 => wRD ax (nI (cT (rK (nx t n (iIt t n r σ).2.1)))) (nI (rB (nx t n (iIt t n r σ).2.1))) (nI (rA (nx t n (iIt t n r σ).2.1))) zu5 ++ (wTP ax (nI n) ++ ([((ax 8), .inl (gB G, 120, .inl (fun k => bt (t k))))] ++ wN G (ax 2) qt (iIt t n r σ).2.2))) (c_X2_step (kl K) G ax t n (rA (iIt t n r σ).2.1) (nI (cT (rK (iIt t n r σ).2.1))) (nI (rB (iIt t n r σ).2.1)) zu3 hT hn (iIt_v hr (σ := σ)).1.an) gX2_tell_X2_step rfl rfl rfl ⟨rfl, by decide, by decide, rfl⟩ ⟨Nat.le_of_ble_eq_true rfl, Nat.le_of_ble_eq_true rfl⟩ ⟨Nat.zero_le _, Nat.zero_le _⟩ rfl (by decide) (ci := 1) 0 rfl rfl rfl rfl rfl (Nat.le_of_ble_eq_true rfl) dX2_tell_57 (fun _ => rfl) (fun zu5 zk3 => ?_)
            have huzu5 := zk3
            refine j_iinc 60 cx [(2, .int (nI (i + 1))), (1, .ref ((ax 2))), (0, .ref ((ax 5)))] 0 (nI (i + 1)) dX2_tell_60 rfl (iinc1 i) (by decide) rfl ?_
            refine j_goto 63 cx 11 dX2_tell_63 (by decide) ?_
            have hq9 := iIt_v hr (σ := σ)
            have ha9 := hq9.2 zc1 (fun q => zc2 (by rw [q]; rfl))
            have hs9 := hq9.1.step
            have hb9 := hq9.1.nxt.ba
            exact ih11 (i + 1) (nx t n (iIt t n r σ).2.1) (iIt t n r σ).2.2 zu5 (by omega) (by omega) hq9.1.nxt (iIt_inv hI) huzu5 (by omega) (by rw [hT9, txT, if_neg (fun q => zc2 (by rw [q.2]; rfl)), if_pos ⟨zc1, cT_3t zc3⟩])
          · skip
            refine j_iconst 49 cx (-1) dX2_tell_49 (by decide) ?_
            refine j_aload_n 50 cx 2 dX2_tell_50 rfl ?_
            refine j_get 51 cx 0 2 (T := TX2) (v := .int (nI (rB (iIt t n r σ).2.1))) (fun _ h => List.mem_cons_of_mem _ (List.mem_append_left _ (List.mem_append_left _ (List.mem_append_right _ (h))))) (List.mem_of_getElem? (i := 2) rfl) (ci := 1) rfl (by decide) rfl rfl rfl dX2_tell_51 ?_
            refine j_isub 54 cx dX2_tell_54 ?_
            have ze : (tx0 t n σ0) = (-1 - nI (rB (iIt t n r σ).2.1), σ0) := by rw [hT9, txT, if_neg (fun q => zc2 (by rw [q.2]; rfl)), if_neg (fun q => zc3 (by rw [q.2]; rfl))]
            have hq9 := (iIt_v hr (σ := σ)).1
            exact fin ((nI (cT (rK (iIt t n r σ).2.1))), (nI (rB (iIt t n r σ).2.1)), (nI (rA (iIt t n r σ).2.1)), zu3, (iIt t n r σ).2.2) _ _ _ _ dX2_tell_55 rfl (by rw [ze] <;> rfl) rfl (fun q => absurd (by rw [ze]; exact fl_neg (by have h1 := hq9.ba; have h2 := hq9.an; omega)) q)
        · skip
          refine j_iload_n 39 cx 0 dX2_tell_39 rfl ?_
          have ze : (tx0 t n σ0) = (nI i, (iIt t n r σ).2.2) := by rw [hT9, txT, if_pos ⟨zc1, cT_0t zc2⟩]
          exact fin ((nI (cT (rK (iIt t n r σ).2.1))), (nI (rB (iIt t n r σ).2.1)), (nI (rA (iIt t n r σ).2.1)), zu3, (iIt t n r σ).2.2) _ _ _ _ dX2_tell_40 rfl (by rw [ze] <;> rfl) rfl (fun _ => by rw [ze])
      · skip
        refine j_iconst 25 cx (-1) dX2_tell_25 (by decide) ?_
        refine j_aload_n 26 cx 2 dX2_tell_26 rfl ?_
        refine j_get 27 cx 0 2 (T := TX2) (v := .int (nI (rB (iIt t n r σ).2.1))) (fun _ h => List.mem_cons_of_mem _ (List.mem_append_left _ (List.mem_append_left _ (List.mem_append_right _ (h))))) (List.mem_of_getElem? (i := 2) rfl) (ci := 1) rfl (by decide) rfl rfl rfl dX2_tell_27 ?_
        refine j_isub 30 cx dX2_tell_30 ?_
        have ze : (tx0 t n σ0) = (-1 - nI (rB (iIt t n r σ).2.1), σ0) := by rw [hT9, txT, if_neg (fun q => by rw [zc1] at q; cases q.1), if_neg (fun q => by rw [zc1] at q; cases q.1)]
        have hq9 := (iIt_v hr (σ := σ)).1
        exact fin ((nI (cT (rK (iIt t n r σ).2.1))), (nI (rB (iIt t n r σ).2.1)), (nI (rA (iIt t n r σ).2.1)), zu3, (iIt t n r σ).2.2) _ _ _ _ dX2_tell_31 rfl (by rw [ze] <;> rfl) rfl (fun q => absurd (by rw [ze]; exact fl_neg (by have h1 := hq9.ba; have h2 := hq9.an; omega)) q)
  refine j_lv [0, 2, 1] rfl ?_
  exact L11 119 1 (rdT t n 0) σ0 zu1 (by omega) (by omega) ⟨0, Nat.zero_le _, rfl⟩ hI0 huzu1 (by omega) rfl
