/-- what the model says of a sheet's number: 0 where it is there -/
def thF (b : Nat → Int32) (s : Int32) : Int32 := if inI s 0 3 then (if b (pN s) = 0 then fcode 5 else 0) else fcode 0
set_option maxRecDepth 100000 in
set_option maxHeartbeats 4000000 in
theorem c_X6_isSheet (l : Launch) (G : pG) (v : Int32) : KI l G yX6_isSheet wsX6_isSheet ({ frames := 1, cells := 0, slots := 0, locals := 23 } : Room) [.int v] (([] : va_W)) (S := Unit) (fun _ => True) (fun u => bI (inI v 0 3)) (fun u => ([] : va_W)) := by
  refine ki_of [(0, .int v)] (own := RX6) (cc := cX6_isSheet) (nL := 1) (by decide +kernel) rfl rfl (Nat.le_of_ble_eq_true rfl) rfl (fun _ => rfl) (fun K cx fin => ?_)
  refine j_iload_n 0 cx 0 dX6_isSheet_0 rfl ?_
  refine j_i2l 1 cx dX6_isSheet_1 ?_
  refine j_iconst 2 cx 0 dX6_isSheet_2 (by decide) ?_
  refine j_iconst 3 cx 3 dX6_isSheet_3 (by decide) ?_
  refine j_callS_i 4 cx 3 [] [.long (v.toInt64), .int 0, .int 3] (fun _ => ([] : va_W)) (c_X6_in (kl K) G (v.toInt64) 0 3) gX6_isSheet_X6_in rfl rfl rfl ⟨by decide, by decide, rfl⟩ ⟨Nat.le_of_ble_eq_true rfl, Nat.le_of_ble_eq_true rfl⟩ ⟨Nat.zero_le _, Nat.zero_le _⟩ rfl (by decide) rfl rfl (Nat.le_of_ble_eq_true rfl) dX6_isSheet_4 (fun _ => rfl) (fun zu1 zk1 => ?_)
  refine j_top (bI (inL (v.toInt64) 0 3)) rfl ?_
  refine j_top (bI (inI v 0 3)) (congrArg bI (inL_i v 0 3)) ?_
  exact fin () _ _ _ _ dX6_isSheet_7 (bI_nar _) rfl rfl trivial
set_option maxRecDepth 100000 in
set_option maxHeartbeats 4000000 in
theorem c_X6_cutTo (l : Launch) (G : pG) (b : Int32) (v : Int64) : KL l G yX6_cutTo wsX6_cutTo ({ frames := 0, cells := 0, slots := 0, locals := 0 } : Room) [.int b, .long (v)] (([] : va_W)) (S := Unit) (fun _ => True) (fun u => cutF b v) (fun u => ([] : va_W)) := by
  refine kl_of [(0, .int b), (1, .long (v))] (own := RX6) (cc := cX6_cutTo) (nL := 3) (by decide +kernel) rfl rfl (Nat.le_of_ble_eq_true rfl) rfl (fun _ => rfl) (fun K cx fin => ?_)
  refine j_iload_n 0 cx 0 dX6_cutTo_0 rfl ?_
  refine j_bipush 1 cx 8 dX6_cutTo_1 (by decide) ?_
  refine j_icmp_ne 3 cx 13 dX6_cutTo_3 (by decide) (fun zc1 => ?_) (fun zc1 => ?_)
  · skip
    refine j_iload_n 13 cx 0 dX6_cutTo_13 rfl ?_
    refine j_bipush 14 cx 16 dX6_cutTo_14 (by decide) ?_
    refine j_icmp_ne 16 cx 26 dX6_cutTo_16 (by decide) (fun zc2 => ?_) (fun zc2 => ?_)
    · skip
      refine j_lload_n 26 cx 1 dX6_cutTo_26 rfl ?_
      exact fin () _ _ _ _ dX6_cutTo_27 (by simp [cutF, zc1, zc2]) rfl trivial
    · skip
      refine j_lload_n 19 cx 1 dX6_cutTo_19 rfl ?_
      refine j_l2i 20 cx dX6_cutTo_20 ?_
      refine j_i2s 21 cx dX6_cutTo_21 ?_
      refine j_i2l 22 cx dX6_cutTo_22 ?_
      refine j_goto 23 cx 27 dX6_cutTo_23 (by decide) ?_
      exact fin () _ _ _ _ dX6_cutTo_27 (by simp [cutF, zc1, zc2]) rfl trivial
  · skip
    refine j_lload_n 6 cx 1 dX6_cutTo_6 rfl ?_
    refine j_l2i 7 cx dX6_cutTo_7 ?_
    refine j_i2b 8 cx dX6_cutTo_8 ?_
    refine j_i2l 9 cx dX6_cutTo_9 ?_
    refine j_goto 10 cx 27 dX6_cutTo_10 (by decide) ?_
    exact fin () _ _ _ _ dX6_cutTo_27 (by simp [cutF, zc1]) rfl trivial
set_option maxRecDepth 100000 in
set_option maxHeartbeats 4000000 in
theorem c_X6_notThere (l : Launch) (G : pG) (o : Nat) (am : Nat → Nat) (ik : Bool) (la tn tk be an va : Int32) (bd : Bool) (bf : Nat → Int32) (v : Int32) : KI l G yX6_notThere wsX6_notThere ({ frames := 2, cells := 0, slots := 0, locals := 43 } : Room) [.ref o, .int v] (wMO o am ik la tn tk be an va bd ++ [((am 5), .inl (gI G, 4, .inl bf))]) (S := Unit) (fun _ => True) (fun u => thF bf v) (fun u => wMO o am ik la tn tk be an va bd ++ [((am 5), .inl (gI G, 4, .inl bf))]) := by
  refine ki_of [(0, .ref o), (1, .int v)] (own := RX6) (cc := cX6_notThere) (nL := 2) (by decide +kernel) rfl rfl (Nat.le_of_ble_eq_true rfl) rfl (fun _ => rfl) (fun K cx fin => ?_)
  refine j_iload_n 0 cx 1 dX6_notThere_0 rfl ?_
  refine j_callS_i 1 cx 1 [] [.int v] (fun _ => wMO o am ik la tn tk be an va bd ++ [((am 5), .inl (gI G, 4, .inl bf))]) (c_X6_isSheet (kl K) G v) gX6_notThere_X6_isSheet rfl rfl rfl ⟨by decide, by decide, rfl⟩ ⟨Nat.le_of_ble_eq_true rfl, Nat.le_of_ble_eq_true rfl⟩ ⟨Nat.zero_le _, Nat.zero_le _⟩ rfl (by decide) rfl rfl (Nat.le_of_ble_eq_true rfl) dX6_notThere_1 (fun _ => rfl) (fun zu1 zk1 => ?_)
  refine j_top (bI (inI v 0 3)) rfl ?_
  refine j_ifB_ne 4 cx 12 dX6_notThere_4 (by decide) (fun zc1 => ?_) (fun zc1 => ?_)
  · skip
    obtain ⟨k, hk1, hk2, rfl⟩ := in_c (L := 0) (M := 3) (a := 0) (m := 3) rfl rfl zc1
    have hck : (nI k).toNatClampNeg = k := nI_clamp (by omega)
    refine j_aload_n 12 cx 0 dX6_notThere_12 rfl ?_
    refine j_get 13 cx 0 13 (T := TX6) (v := .ref ((am 5))) (fun _ h => List.mem_cons_of_mem _ (List.mem_append_right _ (h))) (List.mem_of_getElem? (i := 2) rfl) (ci := 5) rfl (by decide) rfl rfl rfl dX6_notThere_13 ?_
    refine j_iload_n 16 cx 1 dX6_notThere_16 rfl ?_
    refine j_iald 17 cx 1 k rfl rfl (by omega) (by decide) dX6_notThere_17 ?_
    refine j_if_ne 18 cx 26 dX6_notThere_18 (by decide) (fun zc2 => ?_) (fun zc2 => ?_)
    · skip
      refine j_iconst 26 cx 0 dX6_notThere_26 (by decide) ?_
      exact fin () _ _ _ _ dX6_notThere_27 rfl (by unfold thF; rw [if_pos zc1, show pN (nI k) = k from hck, if_neg zc2] <;> rfl) rfl trivial
    · skip
      refine j_ldc 21 cx (v := -1000000006) (List.mem_of_getElem? (i := 3) rfl) dX6_notThere_21 ?_
      refine j_goto 23 cx 27 dX6_notThere_23 (by decide) ?_
      exact fin () _ _ _ _ dX6_notThere_27 rfl (by unfold thF; rw [if_pos zc1, show pN (nI k) = k from hck, if_pos zc2] <;> rfl) rfl trivial
  · skip
    refine j_ldc 7 cx (v := -1000000001) (List.mem_of_getElem? (i := 1) rfl) dX6_notThere_7 ?_
    refine j_goto 9 cx 27 dX6_notThere_9 (by decide) ?_
    exact fin () _ _ _ _ dX6_notThere_27 rfl (by unfold thF; rw [if_neg (by rw [zc1]; decide)]; rfl) rfl trivial
