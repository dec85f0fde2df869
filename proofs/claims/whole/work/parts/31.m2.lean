set_option maxRecDepth 100000 in
set_option maxHeartbeats 4000000 in
theorem c_X6_goes_none (l : Launch) (G : pG) (o : Nat) (am : Nat → Nat) (ik : Bool) (la tn tk be an va : Int32) (bd : Bool) (σ : Nu) (hI : Inv σ)(hL : loud σ = none) : KV l G yX6_goes wsX6_goes ({ frames := 6, cells := 0, slots := 0, locals := 135 } : Room) [.ref o] (wMO o am ik la tn tk be an va bd ++ [((am 0), .inl (gI G, 51, .inl (mm σ)))]) (S := Unit) (fun _ => True) (fun u => wMO o am ik (-1) tn tk be an va bd ++ [((am 0), .inl (gI G, 51, .inl (mm (dayF σ))))]) := by
  have h8 := hI.sz8
  refine kv_of [(0, .ref o)] (own := RX6) (cc := cX6_goes) (nL := 3) (by decide +kernel) rfl rfl (Nat.le_of_ble_eq_true rfl) rfl (fun _ => rfl) (fun K cx fin => ?_)
  refine j_aload_n 0 cx 0 dX6_goes_0 rfl ?_
  refine j_aload_n 1 cx 0 dX6_goes_1 rfl ?_
  refine j_callV_i 2 cx 0 [0, 1] [] (fun _ => wMO o am ik la tn tk be an va bd ++ [((am 0), .inl (gI G, 51, .inl (mm σ)))]) (c_X6_loudest (kl K) G o am ik la tn tk be an va bd σ  hI ) gX6_goes_X6_loudest rfl rfl rfl ⟨rfl, by decide, by decide, rfl⟩ ⟨Nat.le_of_ble_eq_true rfl, Nat.le_of_ble_eq_true rfl⟩ ⟨Nat.zero_le _, Nat.zero_le _⟩ rfl (by decide) (ci := 5) 0 rfl rfl rfl rfl rfl (Nat.le_of_ble_eq_true rfl) dX6_goes_2 (fun _ => rfl) (fun zu1 zk1 => ?_)
  refine j_top (oI (loud σ)) rfl ?_
  refine j_top ((-1)) (by rw [hL]; rfl) ?_
  refine j_put 5 cx 0 5 (wMO o am ik (-1) tn tk be an va bd ++ [((am 0), .inl (gI G, 51, .inl (mm σ)))]) (T := TX6) (ty0 := tyX6) (fun _ h => List.mem_cons_of_mem _ (List.mem_append_right _ (h))) (List.mem_of_getElem? (i := 1) rfl) (ci := 5) rfl (by decide) rfl tyX6_ok nmX6 rfl rfl rfl rfl (Nat.le_of_ble_eq_true rfl) rfl dX6_goes_5 ?_
  refine j_bipush 8 cx (-10) dX6_goes_8 (by decide) ?_
  refine j_istore_n 10 cx [(1, .int ((-10))), (0, .ref o)] dX6_goes_10 (by decide) rfl ?_
  refine j_aload_n 11 cx 1 dX6_goes_11 rfl ?_
  refine j_get 12 cx 0 5 (T := TX6) (v := .int ((-1))) (fun _ h => List.mem_cons_of_mem _ (List.mem_append_right _ (h))) (List.mem_of_getElem? (i := 1) rfl) (ci := 5) rfl (by decide) rfl rfl rfl dX6_goes_12 ?_
  refine j_if_lt_T 15 cx 115 dX6_goes_15 (by decide) (by decide) ?_
  refine j_aload_n 115 cx 1 dX6_goes_115 rfl ?_
  refine j_get 116 cx 0 0 (T := TX6) (v := .ref ((am 0))) (fun _ h => List.mem_cons_of_mem _ (List.mem_append_right _ (h))) (List.mem_of_getElem? (i := 2) rfl) (ci := 5) rfl (by decide) rfl rfl rfl dX6_goes_116 ?_
  refine j_iconst 119 cx 1 dX6_goes_119 (by decide) ?_
  refine j_aload_n 120 cx 1 dX6_goes_120 rfl ?_
  refine j_get 121 cx 0 0 (T := TX6) (v := .ref ((am 0))) (fun _ h => List.mem_cons_of_mem _ (List.mem_append_right _ (h))) (List.mem_of_getElem? (i := 2) rfl) (ci := 5) rfl (by decide) rfl rfl rfl dX6_goes_121 ?_
  refine j_iconst 124 cx 1 dX6_goes_124 (by decide) ?_
  refine j_iald 125 cx 1 1 rfl rfl (by omega) (by decide) dX6_goes_125 ?_
  refine j_top (σ 0 1) rfl ?_
  refine j_iload_n 126 cx 0 dX6_goes_126 rfl ?_
  refine j_iadd 127 cx dX6_goes_127 ?_
  refine j_top (σ 0 1 - 10) (i_m10 _) ?_
  refine j_iconst 128 cx 0 dX6_goes_128 (by decide) ?_
  refine j_bipush 129 cx 99 dX6_goes_129 (by decide) ?_
  refine j_callS_i 131 cx 3 [] [.int (σ 0 1 - 10), .int 0, .int 99] (fun _ => wMO o am ik (-1) tn tk be an va bd ++ [((am 0), .inl (gI G, 51, .inl (mm σ)))]) (c_X6_held (kl K) G (σ 0 1 - 10) 0 99) gX6_goes_X6_held rfl rfl rfl ⟨by decide, by decide, rfl⟩ ⟨Nat.le_of_ble_eq_true rfl, Nat.le_of_ble_eq_true rfl⟩ ⟨Nat.zero_le _, Nat.zero_le _⟩ rfl (by decide) rfl rfl (Nat.le_of_ble_eq_true rfl) dX6_goes_131 (fun _ => rfl) (fun zu2 zk2 => ?_)
  refine j_top (hd (σ 0 1 - 10) 0 99) rfl ?_
  refine j_top (mx0 (σ 0 1 - 10)) (hd_mx0 (wy_10 hI)) ?_
  refine j_iast 134 cx 1 1 (wMO o am ik (-1) tn tk be an va bd ++ [((am 0), .inl (gI G, 51, .inl (upd (mm σ) 1 (mx0 (σ 0 1 - 10)))))]) rfl rfl (by omega) (by decide) rfl dX6_goes_134 ?_
  refine j_ws (wMO o am ik (-1) tn tk be an va bd ++ [((am 0), .inl (gI G, 51, .inl (mm (up2 σ 0 1 (mx0 (σ 0 1 - 10))))))]) (congrArg (fun zf : Nat → Int32 => wMO o am ik (-1) tn tk be an va bd ++ [((am 0), .inl (gI G, 51, .inl zf))]) (mm_usc _ _ (by omega))) ?_
  refine j_ws (wMO o am ik (-1) tn tk be an va bd ++ [((am 0), .inl (gI G, 51, .inl (mm (tireF σ))))]) (congrArg (fun zn : Nu => wMO o am ik (-1) tn tk be an va bd ++ [((am 0), .inl (gI G, 51, .inl (mm zn)))]) (tireF_none hL).symm) ?_
  refine j_aload_n 135 cx 1 dX6_goes_135 rfl ?_
  refine j_get 136 cx 0 0 (T := TX6) (v := .ref ((am 0))) (fun _ h => List.mem_cons_of_mem _ (List.mem_append_right _ (h))) (List.mem_of_getElem? (i := 2) rfl) (ci := 5) rfl (by decide) rfl rfl rfl dX6_goes_136 ?_
  refine j_iconst 139 cx 1 dX6_goes_139 (by decide) ?_
  refine j_aload_n 140 cx 1 dX6_goes_140 rfl ?_
  refine j_get 141 cx 0 0 (T := TX6) (v := .ref ((am 0))) (fun _ h => List.mem_cons_of_mem _ (List.mem_append_right _ (h))) (List.mem_of_getElem? (i := 2) rfl) (ci := 5) rfl (by decide) rfl rfl rfl dX6_goes_141 ?_
  refine j_iconst 144 cx 1 dX6_goes_144 (by decide) ?_
  refine j_iald 145 cx 1 1 rfl rfl (by omega) (by decide) dX6_goes_145 ?_
  refine j_top ((tireF σ) 0 1) rfl ?_
  refine j_aload_n 146 cx 1 dX6_goes_146 rfl ?_
  refine j_callV_i 147 cx 0 [0, 1] [] (fun _ => wMO o am ik (-1) tn tk be an va bd ++ [((am 0), .inl (gI G, 51, .inl (mm (tireF σ))))]) (c_X6_isHoliday (kl K) G o am ik (-1) tn tk be an va bd (tireF σ)  (inv_tireF hI).dy (inv_tireF hI).dyM ) gX6_goes_X6_isHoliday rfl rfl rfl ⟨rfl, by decide, by decide, rfl⟩ ⟨Nat.le_of_ble_eq_true rfl, Nat.le_of_ble_eq_true rfl⟩ ⟨Nat.zero_le _, Nat.zero_le _⟩ rfl (by decide) (ci := 5) 0 rfl rfl rfl rfl rfl (Nat.le_of_ble_eq_true rfl) dX6_goes_147 (fun _ => rfl) (fun zu3 zk3 => ?_)
  refine j_top (bI (hol (tireF σ))) rfl ?_
  refine j_ifB_eq 150 cx 157 dX6_goes_150 (by decide) (fun zc1 => ?_) (fun zc1 => ?_)
  · skip
    refine j_iconst 157 cx 0 dX6_goes_157 (by decide) ?_
    refine j_isub 158 cx dX6_goes_158 ?_
    refine j_top ((tireF σ) 0 1) (i_sub0 _) ?_
    refine j_iconst 159 cx 0 dX6_goes_159 (by decide) ?_
    refine j_bipush 160 cx 99 dX6_goes_160 (by decide) ?_
    refine j_callS_i 162 cx 3 [] [.int ((tireF σ) 0 1), .int 0, .int 99] (fun _ => wMO o am ik (-1) tn tk be an va bd ++ [((am 0), .inl (gI G, 51, .inl (mm (tireF σ))))]) (c_X6_held (kl K) G ((tireF σ) 0 1) 0 99) gX6_goes_X6_held rfl rfl rfl ⟨by decide, by decide, rfl⟩ ⟨Nat.le_of_ble_eq_true rfl, Nat.le_of_ble_eq_true rfl⟩ ⟨Nat.zero_le _, Nat.zero_le _⟩ rfl (by decide) rfl rfl (Nat.le_of_ble_eq_true rfl) dX6_goes_162 (fun _ => rfl) (fun zu4 zk4 => ?_)
    refine j_top (hd ((tireF σ) 0 1) 0 99) rfl ?_
    refine j_top ((tireF σ) 0 1) (hd_99 (inv_tireF hI).2.2.1) ?_
    refine j_iast 165 cx 1 1 (wMO o am ik (-1) tn tk be an va bd ++ [((am 0), .inl (gI G, 51, .inl (upd (mm (tireF σ)) 1 ((tireF σ) 0 1))))]) rfl rfl (by omega) (by decide) rfl dX6_goes_165 ?_
    refine j_ws (wMO o am ik (-1) tn tk be an va bd ++ [((am 0), .inl (gI G, 51, .inl (mm (up2 (tireF σ) 0 1 ((tireF σ) 0 1)))))]) (congrArg (fun zf : Nat → Int32 => wMO o am ik (-1) tn tk be an va bd ++ [((am 0), .inl (gI G, 51, .inl zf))]) (mm_usc _ _ (by omega))) ?_
    refine j_ws (wMO o am ik (-1) tn tk be an va bd ++ [((am 0), .inl (gI G, 51, .inl (mm (holF (tireF σ)))))]) (congrArg (fun zn : Nu => wMO o am ik (-1) tn tk be an va bd ++ [((am 0), .inl (gI G, 51, .inl (mm zn)))]) ((up2_same (tireF σ) 0 1).trans (holF_f zc1).symm)) ?_
    refine j_iconst 166 cx 0 dX6_goes_166 (by decide) ?_
    refine j_istore_n 167 cx [(2, .int 0), (1, .int ((-10))), (0, .ref o)] dX6_goes_167 (by decide) rfl ?_
    have L168 : ∀ d : Nat, ∀ (k : Nat), (k + d = szN σ) → JJ G K 0 0 (wMO o am ik (-1) tn tk be an va bd ++ [((am 0), .inl (gI G, 51, .inl (mm (offF (holF (tireF σ)) k))))]) [(2, .int (nI k)), (1, .int ((-10))), (0, .ref o)] 168 [] := by
      intro d
      induction d with
      | zero =>
        intro k hk
        refine j_iload_n 168 cx 0 dX6_goes_168 rfl ?_
        refine j_aload_n 169 cx 2 dX6_goes_169 rfl ?_
        refine j_get 170 cx 0 0 (T := TX6) (v := .ref ((am 0))) (fun _ h => List.mem_cons_of_mem _ (List.mem_append_right _ (h))) (List.mem_of_getElem? (i := 2) rfl) (ci := 5) rfl (by decide) rfl rfl rfl dX6_goes_170 ?_
        refine j_iconst 173 cx 3 dX6_goes_173 (by decide) ?_
        refine j_iald 174 cx 1 3 rfl rfl (by omega) (by decide) dX6_goes_174 ?_
        refine j_top ((offF (holF (tireF σ)) k) 0 3) rfl ?_
        refine j_top (nI (szN σ)) ((ht_size σ k).trans hI.sz) ?_
        refine j_icmp_ge_T 175 cx 204 dX6_goes_175 (by decide) (nI_le (by omega) (by omega)) ?_
        refine j_aload_n 204 cx 2 dX6_goes_204 rfl ?_
        refine j_get 205 cx 0 0 (T := TX6) (v := .ref ((am 0))) (fun _ h => List.mem_cons_of_mem _ (List.mem_append_right _ (h))) (List.mem_of_getElem? (i := 2) rfl) (ci := 5) rfl (by decide) rfl rfl rfl dX6_goes_205 ?_
        refine j_iconst 208 cx 0 dX6_goes_208 (by decide) ?_
        refine j_dup2 209 cx dX6_goes_209 rfl rfl ?_
        refine j_iald 210 cx 1 0 rfl rfl (by omega) (by decide) dX6_goes_210 ?_
        refine j_top ((offF (holF (tireF σ)) k) 0 0) rfl ?_
        refine j_iconst 211 cx 1 dX6_goes_211 (by decide) ?_
        refine j_iadd 212 cx dX6_goes_212 ?_
        refine j_iast 213 cx 1 0 (wMO o am ik (-1) tn tk be an va bd ++ [((am 0), .inl (gI G, 51, .inl (upd (mm (offF (holF (tireF σ)) k)) 0 (((offF (holF (tireF σ)) k) 0 0) + 1))))]) rfl rfl (by omega) (by decide) rfl dX6_goes_213 ?_
        refine j_ws (wMO o am ik (-1) tn tk be an va bd ++ [((am 0), .inl (gI G, 51, .inl (mm (up2 (offF (holF (tireF σ)) k) 0 0 (((offF (holF (tireF σ)) k) 0 0) + 1)))))]) (congrArg (fun zf : Nat → Int32 => wMO o am ik (-1) tn tk be an va bd ++ [((am 0), .inl (gI G, 51, .inl zf))]) (mm_usc _ _ (by omega))) ?_
        exact fin () _ _ _ dX6_goes_214 (congrArg (fun zn : Nu => wMO o am ik (-1) tn tk be an va bd ++ [((am 0), .inl (gI G, 51, .inl (mm zn)))]) (by rw [show k = szN σ from by omega, dayF, ht_day])) trivial
      | succ d ih168 =>
        intro k hk
        refine j_iload_n 168 cx 0 dX6_goes_168 rfl ?_
        refine j_aload_n 169 cx 2 dX6_goes_169 rfl ?_
        refine j_get 170 cx 0 0 (T := TX6) (v := .ref ((am 0))) (fun _ h => List.mem_cons_of_mem _ (List.mem_append_right _ (h))) (List.mem_of_getElem? (i := 2) rfl) (ci := 5) rfl (by decide) rfl rfl rfl dX6_goes_170 ?_
        refine j_iconst 173 cx 3 dX6_goes_173 (by decide) ?_
        refine j_iald 174 cx 1 3 rfl rfl (by omega) (by decide) dX6_goes_174 ?_
        refine j_top ((offF (holF (tireF σ)) k) 0 3) rfl ?_
        refine j_top (nI (szN σ)) ((ht_size σ k).trans hI.sz) ?_
        refine j_icmp_ge_F 175 cx 204 dX6_goes_175 (by decide) (nI_ge (by omega) (by omega)) ?_
        refine j_aload_n 178 cx 2 dX6_goes_178 rfl ?_
        refine j_iload_n 179 cx 0 dX6_goes_179 rfl ?_
        refine j_iconst 180 cx 4 dX6_goes_180 (by decide) ?_
        refine j_aload_n 181 cx 2 dX6_goes_181 rfl ?_
        refine j_iload_n 182 cx 0 dX6_goes_182 rfl ?_
        refine j_iconst 183 cx 4 dX6_goes_183 (by decide) ?_
        refine j_callV_i 184 cx 2 [0, 1] [.int (nI k), .int 4] (fun _ => wMO o am ik (-1) tn tk be an va bd ++ [((am 0), .inl (gI G, 51, .inl (mm (offF (holF (tireF σ)) k))))]) (c_X6_it (kl K) G o am ik (-1) tn tk be an va bd (offF (holF (tireF σ)) k) k 4 (by omega) (by omega) ) gX6_goes_X6_it rfl rfl rfl ⟨rfl, by decide, by decide, rfl⟩ ⟨Nat.le_of_ble_eq_true rfl, Nat.le_of_ble_eq_true rfl⟩ ⟨Nat.zero_le _, Nat.zero_le _⟩ rfl (by decide) (ci := 5) 0 rfl rfl rfl rfl rfl (Nat.le_of_ble_eq_true rfl) dX6_goes_184 (fun _ => rfl) (fun zu5 zk5 => ?_)
        refine j_top ((offF (holF (tireF σ)) k) 6 k) rfl ?_
        refine j_iconst 187 cx 1 dX6_goes_187 (by decide) ?_
        refine j_isub 188 cx dX6_goes_188 ?_
        refine j_iconst 189 cx 0 dX6_goes_189 (by decide) ?_
        refine j_bipush 190 cx 99 dX6_goes_190 (by decide) ?_
        refine j_callS_i 192 cx 3 [] [.int (((offF (holF (tireF σ)) k) 6 k) - 1), .int 0, .int 99] (fun _ => wMO o am ik (-1) tn tk be an va bd ++ [((am 0), .inl (gI G, 51, .inl (mm (offF (holF (tireF σ)) k))))]) (c_X6_held (kl K) G (((offF (holF (tireF σ)) k) 6 k) - 1) 0 99) gX6_goes_X6_held rfl rfl rfl ⟨by decide, by decide, rfl⟩ ⟨Nat.le_of_ble_eq_true rfl, Nat.le_of_ble_eq_true rfl⟩ ⟨Nat.zero_le _, Nat.zero_le _⟩ rfl (by decide) rfl rfl (Nat.le_of_ble_eq_true rfl) dX6_goes_192 (fun _ => rfl) (fun zu6 zk6 => ?_)
        refine j_top (hd (((offF (holF (tireF σ)) k) 6 k) - 1) 0 99) rfl ?_
        refine j_top (mx0 ((offF (holF (tireF σ)) k) 6 k - 1)) (hd_mx0 (of_1 (inv_offF (inv_holF (inv_tireF hI)) k) k)) ?_
        refine j_callV_v 195 cx 3 [0, 1] [.int (nI k), .int 4, .int (mx0 ((offF (holF (tireF σ)) k) 6 k - 1))] (fun _ => wMO o am ik (-1) tn tk be an va bd ++ [((am 0), .inl (gI G, 51, .inl (mm (up2 (offF (holF (tireF σ)) k) 6 k (mx0 ((offF (holF (tireF σ)) k) 6 k - 1))))))]) (c_X6_put (kl K) G o am ik (-1) tn tk be an va bd (offF (holF (tireF σ)) k) k 4 (mx0 ((offF (holF (tireF σ)) k) 6 k - 1)) (by omega) (by omega)) gX6_goes_X6_put rfl rfl rfl ⟨rfl, by decide, by decide, rfl⟩ ⟨Nat.le_of_ble_eq_true rfl, Nat.le_of_ble_eq_true rfl⟩ ⟨Nat.zero_le _, Nat.zero_le _⟩ rfl (by decide) (ci := 5) 0 rfl rfl rfl rfl rfl (Nat.le_of_ble_eq_true rfl) dX6_goes_195 (fun _ => rfl) (fun zu7 zk7 => ?_)
        refine j_iinc 198 cx [(2, .int (nI (k + 1))), (1, .int ((-10))), (0, .ref o)] 0 (nI (k + 1)) dX6_goes_198 rfl (iinc1 k) (by decide) rfl ?_
        refine j_goto 201 cx 168 dX6_goes_201 (by decide) ?_
        have h9 := ih168 (k + 1) (by omega)
        exact h9
    exact L168 (szN σ) 0 (by omega)
  · skip
    refine j_iconst 153 cx 4 dX6_goes_153 (by decide) ?_
    refine j_goto 154 cx 158 dX6_goes_154 (by decide) ?_
    refine j_isub 158 cx dX6_goes_158 ?_
    refine j_iconst 159 cx 0 dX6_goes_159 (by decide) ?_
    refine j_bipush 160 cx 99 dX6_goes_160 (by decide) ?_
    refine j_callS_i 162 cx 3 [] [.int (((tireF σ) 0 1) - 4), .int 0, .int 99] (fun _ => wMO o am ik (-1) tn tk be an va bd ++ [((am 0), .inl (gI G, 51, .inl (mm (tireF σ))))]) (c_X6_held (kl K) G (((tireF σ) 0 1) - 4) 0 99) gX6_goes_X6_held rfl rfl rfl ⟨by decide, by decide, rfl⟩ ⟨Nat.le_of_ble_eq_true rfl, Nat.le_of_ble_eq_true rfl⟩ ⟨Nat.zero_le _, Nat.zero_le _⟩ rfl (by decide) rfl rfl (Nat.le_of_ble_eq_true rfl) dX6_goes_162 (fun _ => rfl) (fun zu8 zk8 => ?_)
    refine j_top (hd (((tireF σ) 0 1) - 4) 0 99) rfl ?_
    refine j_top (mx0 ((tireF σ) 0 1 - 4)) (hd_mx0 (wy_4 (inv_tireF hI))) ?_
    refine j_iast 165 cx 1 1 (wMO o am ik (-1) tn tk be an va bd ++ [((am 0), .inl (gI G, 51, .inl (upd (mm (tireF σ)) 1 (mx0 ((tireF σ) 0 1 - 4)))))]) rfl rfl (by omega) (by decide) rfl dX6_goes_165 ?_
    refine j_ws (wMO o am ik (-1) tn tk be an va bd ++ [((am 0), .inl (gI G, 51, .inl (mm (up2 (tireF σ) 0 1 (mx0 ((tireF σ) 0 1 - 4))))))]) (congrArg (fun zf : Nat → Int32 => wMO o am ik (-1) tn tk be an va bd ++ [((am 0), .inl (gI G, 51, .inl zf))]) (mm_usc _ _ (by omega))) ?_
    refine j_ws (wMO o am ik (-1) tn tk be an va bd ++ [((am 0), .inl (gI G, 51, .inl (mm (holF (tireF σ)))))]) (congrArg (fun zn : Nu => wMO o am ik (-1) tn tk be an va bd ++ [((am 0), .inl (gI G, 51, .inl (mm zn)))]) (holF_t zc1).symm) ?_
    refine j_iconst 166 cx 0 dX6_goes_166 (by decide) ?_
    refine j_istore_n 167 cx [(2, .int 0), (1, .int ((-10))), (0, .ref o)] dX6_goes_167 (by decide) rfl ?_
    have L168 : ∀ d : Nat, ∀ (k : Nat), (k + d = szN σ) → JJ G K 0 0 (wMO o am ik (-1) tn tk be an va bd ++ [((am 0), .inl (gI G, 51, .inl (mm (offF (holF (tireF σ)) k))))]) [(2, .int (nI k)), (1, .int ((-10))), (0, .ref o)] 168 [] := by
      intro d
      induction d with
      | zero =>
        intro k hk
        refine j_iload_n 168 cx 0 dX6_goes_168 rfl ?_
        refine j_aload_n 169 cx 2 dX6_goes_169 rfl ?_
        refine j_get 170 cx 0 0 (T := TX6) (v := .ref ((am 0))) (fun _ h => List.mem_cons_of_mem _ (List.mem_append_right _ (h))) (List.mem_of_getElem? (i := 2) rfl) (ci := 5) rfl (by decide) rfl rfl rfl dX6_goes_170 ?_
        refine j_iconst 173 cx 3 dX6_goes_173 (by decide) ?_
        refine j_iald 174 cx 1 3 rfl rfl (by omega) (by decide) dX6_goes_174 ?_
        refine j_top ((offF (holF (tireF σ)) k) 0 3) rfl ?_
        refine j_top (nI (szN σ)) ((ht_size σ k).trans hI.sz) ?_
        refine j_icmp_ge_T 175 cx 204 dX6_goes_175 (by decide) (nI_le (by omega) (by omega)) ?_
        refine j_aload_n 204 cx 2 dX6_goes_204 rfl ?_
        refine j_get 205 cx 0 0 (T := TX6) (v := .ref ((am 0))) (fun _ h => List.mem_cons_of_mem _ (List.mem_append_right _ (h))) (List.mem_of_getElem? (i := 2) rfl) (ci := 5) rfl (by decide) rfl rfl rfl dX6_goes_205 ?_
        refine j_iconst 208 cx 0 dX6_goes_208 (by decide) ?_
        refine j_dup2 209 cx dX6_goes_209 rfl rfl ?_
        refine j_iald 210 cx 1 0 rfl rfl (by omega) (by decide) dX6_goes_210 ?_
        refine j_top ((offF (holF (tireF σ)) k) 0 0) rfl ?_
        refine j_iconst 211 cx 1 dX6_goes_211 (by decide) ?_
        refine j_iadd 212 cx dX6_goes_212 ?_
        refine j_iast 213 cx 1 0 (wMO o am ik (-1) tn tk be an va bd ++ [((am 0), .inl (gI G, 51, .inl (upd (mm (offF (holF (tireF σ)) k)) 0 (((offF (holF (tireF σ)) k) 0 0) + 1))))]) rfl rfl (by omega) (by decide) rfl dX6_goes_213 ?_
        refine j_ws (wMO o am ik (-1) tn tk be an va bd ++ [((am 0), .inl (gI G, 51, .inl (mm (up2 (offF (holF (tireF σ)) k) 0 0 (((offF (holF (tireF σ)) k) 0 0) + 1)))))]) (congrArg (fun zf : Nat → Int32 => wMO o am ik (-1) tn tk be an va bd ++ [((am 0), .inl (gI G, 51, .inl zf))]) (mm_usc _ _ (by omega))) ?_
        exact fin () _ _ _ dX6_goes_214 (congrArg (fun zn : Nu => wMO o am ik (-1) tn tk be an va bd ++ [((am 0), .inl (gI G, 51, .inl (mm zn)))]) (by rw [show k = szN σ from by omega, dayF, ht_day])) trivial
      | succ d ih168 =>
        intro k hk
        refine j_iload_n 168 cx 0 dX6_goes_168 rfl ?_
        refine j_aload_n 169 cx 2 dX6_goes_169 rfl ?_
        refine j_get 170 cx 0 0 (T := TX6) (v := .ref ((am 0))) (fun _ h => List.mem_cons_of_mem _ (List.mem_append_right _ (h))) (List.mem_of_getElem? (i := 2) rfl) (ci := 5) rfl (by decide) rfl rfl rfl dX6_goes_170 ?_
        refine j_iconst 173 cx 3 dX6_goes_173 (by decide) ?_
        refine j_iald 174 cx 1 3 rfl rfl (by omega) (by decide) dX6_goes_174 ?_
        refine j_top ((offF (holF (tireF σ)) k) 0 3) rfl ?_
        refine j_top (nI (szN σ)) ((ht_size σ k).trans hI.sz) ?_
        refine j_icmp_ge_F 175 cx 204 dX6_goes_175 (by decide) (nI_ge (by omega) (by omega)) ?_
        refine j_aload_n 178 cx 2 dX6_goes_178 rfl ?_
        refine j_iload_n 179 cx 0 dX6_goes_179 rfl ?_
        refine j_iconst 180 cx 4 dX6_goes_180 (by decide) ?_
        refine j_aload_n 181 cx 2 dX6_goes_181 rfl ?_
        refine j_iload_n 182 cx 0 dX6_goes_182 rfl ?_
        refine j_iconst 183 cx 4 dX6_goes_183 (by decide) ?_
        refine j_callV_i 184 cx 2 [0, 1] [.int (nI k), .int 4] (fun _ => wMO o am ik (-1) tn tk be an va bd ++ [((am 0), .inl (gI G, 51, .inl (mm (offF (holF (tireF σ)) k))))]) (c_X6_it (kl K) G o am ik (-1) tn tk be an va bd (offF (holF (tireF σ)) k) k 4 (by omega) (by omega) ) gX6_goes_X6_it rfl rfl rfl ⟨rfl, by decide, by decide, rfl⟩ ⟨Nat.le_of_ble_eq_true rfl, Nat.le_of_ble_eq_true rfl⟩ ⟨Nat.zero_le _, Nat.zero_le _⟩ rfl (by decide) (ci := 5) 0 rfl rfl rfl rfl rfl (Nat.le_of_ble_eq_true rfl) dX6_goes_184 (fun _ => rfl) (fun zu9 zk9 => ?_)
        refine j_top ((offF (holF (tireF σ)) k) 6 k) rfl ?_
        refine j_iconst 187 cx 1 dX6_goes_187 (by decide) ?_
        refine j_isub 188 cx dX6_goes_188 ?_
        refine j_iconst 189 cx 0 dX6_goes_189 (by decide) ?_
        refine j_bipush 190 cx 99 dX6_goes_190 (by decide) ?_
        refine j_callS_i 192 cx 3 [] [.int (((offF (holF (tireF σ)) k) 6 k) - 1), .int 0, .int 99] (fun _ => wMO o am ik (-1) tn tk be an va bd ++ [((am 0), .inl (gI G, 51, .inl (mm (offF (holF (tireF σ)) k))))]) (c_X6_held (kl K) G (((offF (holF (tireF σ)) k) 6 k) - 1) 0 99) gX6_goes_X6_held rfl rfl rfl ⟨by decide, by decide, rfl⟩ ⟨Nat.le_of_ble_eq_true rfl, Nat.le_of_ble_eq_true rfl⟩ ⟨Nat.zero_le _, Nat.zero_le _⟩ rfl (by decide) rfl rfl (Nat.le_of_ble_eq_true rfl) dX6_goes_192 (fun _ => rfl) (fun zu10 zk10 => ?_)
        refine j_top (hd (((offF (holF (tireF σ)) k) 6 k) - 1) 0 99) rfl ?_
        refine j_top (mx0 ((offF (holF (tireF σ)) k) 6 k - 1)) (hd_mx0 (of_1 (inv_offF (inv_holF (inv_tireF hI)) k) k)) ?_
        refine j_callV_v 195 cx 3 [0, 1] [.int (nI k), .int 4, .int (mx0 ((offF (holF (tireF σ)) k) 6 k - 1))] (fun _ => wMO o am ik (-1) tn tk be an va bd ++ [((am 0), .inl (gI G, 51, .inl (mm (up2 (offF (holF (tireF σ)) k) 6 k (mx0 ((offF (holF (tireF σ)) k) 6 k - 1))))))]) (c_X6_put (kl K) G o am ik (-1) tn tk be an va bd (offF (holF (tireF σ)) k) k 4 (mx0 ((offF (holF (tireF σ)) k) 6 k - 1)) (by omega) (by omega)) gX6_goes_X6_put rfl rfl rfl ⟨rfl, by decide, by decide, rfl⟩ ⟨Nat.le_of_ble_eq_true rfl, Nat.le_of_ble_eq_true rfl⟩ ⟨Nat.zero_le _, Nat.zero_le _⟩ rfl (by decide) (ci := 5) 0 rfl rfl rfl rfl rfl (Nat.le_of_ble_eq_true rfl) dX6_goes_195 (fun _ => rfl) (fun zu11 zk11 => ?_)
        refine j_iinc 198 cx [(2, .int (nI (k + 1))), (1, .int ((-10))), (0, .ref o)] 0 (nI (k + 1)) dX6_goes_198 rfl (iinc1 k) (by decide) rfl ?_
        refine j_goto 201 cx 168 dX6_goes_201 (by decide) ?_
        have h9 := ih168 (k + 1) (by omega)
        exact h9
    exact L168 (szN σ) 0 (by omega)
set_option maxRecDepth 100000 in
set_option maxHeartbeats 4000000 in
theorem c_X6_goes_some (l : Launch) (G : pG) (o : Nat) (am : Nat → Nat) (ik : Bool) (la tn tk be an va : Int32) (bd : Bool) (σ : Nu) (hI : Inv σ) (p : Nat) (hL : loud σ = some p) : KV l G yX6_goes wsX6_goes ({ frames := 6, cells := 0, slots := 0, locals := 135 } : Room) [.ref o] (wMO o am ik la tn tk be an va bd ++ [((am 0), .inl (gI G, 51, .inl (mm σ)))]) (S := Unit) (fun _ => True) (fun u => wMO o am ik (nI p) tn tk be an va bd ++ [((am 0), .inl (gI G, 51, .inl (mm (dayF σ))))]) := by
  have h8 := hI.sz8
  obtain ⟨hp, hdn, hof⟩ := loud_in hL
  refine kv_of [(0, .ref o)] (own := RX6) (cc := cX6_goes) (nL := 3) (by decide +kernel) rfl rfl (Nat.le_of_ble_eq_true rfl) rfl (fun _ => rfl) (fun K cx fin => ?_)
  refine j_aload_n 0 cx 0 dX6_goes_0 rfl ?_
  refine j_aload_n 1 cx 0 dX6_goes_1 rfl ?_
  refine j_callV_i 2 cx 0 [0, 1] [] (fun _ => wMO o am ik la tn tk be an va bd ++ [((am 0), .inl (gI G, 51, .inl (mm σ)))]) (c_X6_loudest (kl K) G o am ik la tn tk be an va bd σ  hI ) gX6_goes_X6_loudest rfl rfl rfl ⟨rfl, by decide, by decide, rfl⟩ ⟨Nat.le_of_ble_eq_true rfl, Nat.le_of_ble_eq_true rfl⟩ ⟨Nat.zero_le _, Nat.zero_le _⟩ rfl (by decide) (ci := 5) 0 rfl rfl rfl rfl rfl (Nat.le_of_ble_eq_true rfl) dX6_goes_2 (fun _ => rfl) (fun zu1 zk1 => ?_)
  refine j_top (oI (loud σ)) rfl ?_
  refine j_top (nI p) (by rw [hL]; rfl) ?_
  refine j_put 5 cx 0 5 (wMO o am ik (nI p) tn tk be an va bd ++ [((am 0), .inl (gI G, 51, .inl (mm σ)))]) (T := TX6) (ty0 := tyX6) (fun _ h => List.mem_cons_of_mem _ (List.mem_append_right _ (h))) (List.mem_of_getElem? (i := 1) rfl) (ci := 5) rfl (by decide) rfl tyX6_ok nmX6 rfl rfl rfl rfl (Nat.le_of_ble_eq_true rfl) rfl dX6_goes_5 ?_
  refine j_bipush 8 cx (-10) dX6_goes_8 (by decide) ?_
  refine j_istore_n 10 cx [(1, .int ((-10))), (0, .ref o)] dX6_goes_10 (by decide) rfl ?_
  refine j_aload_n 11 cx 1 dX6_goes_11 rfl ?_
  refine j_get 12 cx 0 5 (T := TX6) (v := .int (nI p)) (fun _ h => List.mem_cons_of_mem _ (List.mem_append_right _ (h))) (List.mem_of_getElem? (i := 1) rfl) (ci := 5) rfl (by decide) rfl rfl rfl dX6_goes_12 ?_
  refine j_if_lt_F 15 cx 115 dX6_goes_15 (by decide) (nI_pos (by omega)) ?_
  refine j_aload_n 18 cx 1 dX6_goes_18 rfl ?_
  refine j_aload_n 19 cx 1 dX6_goes_19 rfl ?_
  refine j_get 20 cx 0 5 (T := TX6) (v := .int (nI p)) (fun _ h => List.mem_cons_of_mem _ (List.mem_append_right _ (h))) (List.mem_of_getElem? (i := 1) rfl) (ci := 5) rfl (by decide) rfl rfl rfl dX6_goes_20 ?_
  refine j_iconst 23 cx 2 dX6_goes_23 (by decide) ?_
  refine j_aload_n 24 cx 1 dX6_goes_24 rfl ?_
  refine j_aload_n 25 cx 1 dX6_goes_25 rfl ?_
  refine j_get 26 cx 0 5 (T := TX6) (v := .int (nI p)) (fun _ h => List.mem_cons_of_mem _ (List.mem_append_right _ (h))) (List.mem_of_getElem? (i := 1) rfl) (ci := 5) rfl (by decide) rfl rfl rfl dX6_goes_26 ?_
  refine j_iconst 29 cx 2 dX6_goes_29 (by decide) ?_
  refine j_callV_i 30 cx 2 [0, 1] [.int (nI p), .int 2] (fun _ => wMO o am ik (nI p) tn tk be an va bd ++ [((am 0), .inl (gI G, 51, .inl (mm σ)))]) (c_X6_it (kl K) G o am ik (nI p) tn tk be an va bd σ p 2 (by omega) (by omega) ) gX6_goes_X6_it rfl rfl rfl ⟨rfl, by decide, by decide, rfl⟩ ⟨Nat.le_of_ble_eq_true rfl, Nat.le_of_ble_eq_true rfl⟩ ⟨Nat.zero_le _, Nat.zero_le _⟩ rfl (by decide) (ci := 5) 0 rfl rfl rfl rfl rfl (Nat.le_of_ble_eq_true rfl) dX6_goes_30 (fun _ => rfl) (fun zu2 zk2 => ?_)
  refine j_top (σ 4 p) rfl ?_
  refine j_aload_n 33 cx 1 dX6_goes_33 rfl ?_
  refine j_aload_n 34 cx 1 dX6_goes_34 rfl ?_
  refine j_get 35 cx 0 5 (T := TX6) (v := .int (nI p)) (fun _ h => List.mem_cons_of_mem _ (List.mem_append_right _ (h))) (List.mem_of_getElem? (i := 1) rfl) (ci := 5) rfl (by decide) rfl rfl rfl dX6_goes_35 ?_
  refine j_callV_i 38 cx 1 [0, 1] [.int (nI p)] (fun _ => wMO o am ik (nI p) tn tk be an va bd ++ [((am 0), .inl (gI G, 51, .inl (mm σ)))]) (c_X6_gives (kl K) G o am ik (nI p) tn tk be an va bd σ p hI (by omega) ) gX6_goes_X6_gives rfl rfl rfl ⟨rfl, by decide, by decide, rfl⟩ ⟨Nat.le_of_ble_eq_true rfl, Nat.le_of_ble_eq_true rfl⟩ ⟨Nat.zero_le _, Nat.zero_le _⟩ rfl (by decide) (ci := 5) 0 rfl rfl rfl rfl rfl (Nat.le_of_ble_eq_true rfl) dX6_goes_38 (fun _ => rfl) (fun zu3 zk3 => ?_)
  refine j_top (giveF σ p) rfl ?_
  refine j_iadd 41 cx dX6_goes_41 ?_
  refine j_iconst 42 cx 0 dX6_goes_42 (by decide) ?_
  refine j_sipush 43 cx 9999 dX6_goes_43 (by decide) ?_
  refine j_callS_i 46 cx 3 [] [.int ((σ 4 p) + (giveF σ p)), .int 0, .int 9999] (fun _ => wMO o am ik (nI p) tn tk be an va bd ++ [((am 0), .inl (gI G, 51, .inl (mm σ)))]) (c_X6_held (kl K) G ((σ 4 p) + (giveF σ p)) 0 9999) gX6_goes_X6_held rfl rfl rfl ⟨by decide, by decide, rfl⟩ ⟨Nat.le_of_ble_eq_true rfl, Nat.le_of_ble_eq_true rfl⟩ ⟨Nat.zero_le _, Nat.zero_le _⟩ rfl (by decide) rfl rfl (Nat.le_of_ble_eq_true rfl) dX6_goes_46 (fun _ => rfl) (fun zu4 zk4 => ?_)
  refine j_top (hd ((σ 4 p) + (giveF σ p)) 0 9999) rfl ?_
  refine j_top (mnI 9999 (σ 4 p + giveF σ p)) (hd_mn (pts_0 hI p)) ?_
  refine j_callV_v 49 cx 3 [0, 1] [.int (nI p), .int 2, .int (mnI 9999 (σ 4 p + giveF σ p))] (fun _ => wMO o am ik (nI p) tn tk be an va bd ++ [((am 0), .inl (gI G, 51, .inl (mm (up2 σ 4 p (mnI 9999 (σ 4 p + giveF σ p))))))]) (c_X6_put (kl K) G o am ik (nI p) tn tk be an va bd σ p 2 (mnI 9999 (σ 4 p + giveF σ p)) (by omega) (by omega)) gX6_goes_X6_put rfl rfl rfl ⟨rfl, by decide, by decide, rfl⟩ ⟨Nat.le_of_ble_eq_true rfl, Nat.le_of_ble_eq_true rfl⟩ ⟨Nat.zero_le _, Nat.zero_le _⟩ rfl (by decide) (ci := 5) 0 rfl rfl rfl rfl rfl (Nat.le_of_ble_eq_true rfl) dX6_goes_49 (fun _ => rfl) (fun zu5 zk5 => ?_)
  refine j_aload_n 52 cx 1 dX6_goes_52 rfl ?_
  refine j_aload_n 53 cx 1 dX6_goes_53 rfl ?_
  refine j_get 54 cx 0 5 (T := TX6) (v := .int (nI p)) (fun _ h => List.mem_cons_of_mem _ (List.mem_append_right _ (h))) (List.mem_of_getElem? (i := 1) rfl) (ci := 5) rfl (by decide) rfl rfl rfl dX6_goes_54 ?_
  refine j_callV_i 57 cx 1 [0, 1] [.int (nI p)] (fun _ => wMO o am ik (nI p) tn tk be an va bd ++ [((am 0), .inl (gI G, 51, .inl (mm (up2 σ 4 p (mnI 9999 (σ 4 p + giveF σ p))))))]) (c_X6_tires (kl K) G o am ik (nI p) tn tk be an va bd (up2 σ 4 p (mnI 9999 (σ 4 p + giveF σ p))) p (by omega) ) gX6_goes_X6_tires rfl rfl rfl ⟨rfl, by decide, by decide, rfl⟩ ⟨Nat.le_of_ble_eq_true rfl, Nat.le_of_ble_eq_true rfl⟩ ⟨Nat.zero_le _, Nat.zero_le _⟩ rfl (by decide) (ci := 5) 0 rfl rfl rfl rfl rfl (Nat.le_of_ble_eq_true rfl) dX6_goes_57 (fun _ => rfl) (fun zu6 zk6 => ?_)
  refine j_top (kTires (σ 2 p)) rfl ?_
  refine j_istore_n 60 cx [(1, .int (kTires (σ 2 p))), (0, .ref o)] dX6_goes_60 (by decide) rfl ?_
  refine j_aload_n 61 cx 1 dX6_goes_61 rfl ?_
  refine j_get 62 cx 0 0 (T := TX6) (v := .ref ((am 0))) (fun _ h => List.mem_cons_of_mem _ (List.mem_append_right _ (h))) (List.mem_of_getElem? (i := 2) rfl) (ci := 5) rfl (by decide) rfl rfl rfl dX6_goes_62 ?_
  refine j_iconst 65 cx 2 dX6_goes_65 (by decide) ?_
  refine j_aload_n 66 cx 1 dX6_goes_66 rfl ?_
  refine j_get 67 cx 0 0 (T := TX6) (v := .ref ((am 0))) (fun _ h => List.mem_cons_of_mem _ (List.mem_append_right _ (h))) (List.mem_of_getElem? (i := 2) rfl) (ci := 5) rfl (by decide) rfl rfl rfl dX6_goes_67 ?_
  refine j_iconst 70 cx 2 dX6_goes_70 (by decide) ?_
  refine j_iald 71 cx 1 2 rfl rfl (by omega) (by decide) dX6_goes_71 ?_
  refine j_top (σ 0 2) rfl ?_
  refine j_aload_n 72 cx 1 dX6_goes_72 rfl ?_
  refine j_aload_n 73 cx 1 dX6_goes_73 rfl ?_
  refine j_get 74 cx 0 5 (T := TX6) (v := .int (nI p)) (fun _ h => List.mem_cons_of_mem _ (List.mem_append_right _ (h))) (List.mem_of_getElem? (i := 1) rfl) (ci := 5) rfl (by decide) rfl rfl rfl dX6_goes_74 ?_
  refine j_callV_i 77 cx 1 [0, 1] [.int (nI p)] (fun _ => wMO o am ik (nI p) tn tk be an va bd ++ [((am 0), .inl (gI G, 51, .inl (mm (up2 σ 4 p (mnI 9999 (σ 4 p + giveF σ p))))))]) (c_X6_isDone (kl K) G o am ik (nI p) tn tk be an va bd (up2 σ 4 p (mnI 9999 (σ 4 p + giveF σ p))) p (by omega) ) gX6_goes_X6_isDone rfl rfl rfl ⟨rfl, by decide, by decide, rfl⟩ ⟨Nat.le_of_ble_eq_true rfl, Nat.le_of_ble_eq_true rfl⟩ ⟨Nat.zero_le _, Nat.zero_le _⟩ rfl (by decide) (ci := 5) 0 rfl rfl rfl rfl rfl (Nat.le_of_ble_eq_true rfl) dX6_goes_77 (fun _ => rfl) (fun zu7 zk7 => ?_)
  refine j_top (bI (done (up2 σ 4 p (mnI 9999 (σ 4 p + giveF σ p))) p)) rfl ?_
  refine j_ifB_eq 80 cx 105 dX6_goes_80 (by decide) (fun zc1 => ?_) (fun zc1 => ?_)
  · skip
    refine j_iconst 105 cx 0 dX6_goes_105 (by decide) ?_
    refine j_iadd 106 cx dX6_goes_106 ?_
    refine j_top (σ 0 2) (i_add0 _) ?_
    refine j_iconst 107 cx 0 dX6_goes_107 (by decide) ?_
    refine j_sipush 108 cx 9999 dX6_goes_108 (by decide) ?_
    refine j_callS_i 111 cx 3 [] [.int (σ 0 2), .int 0, .int 9999] (fun _ => wMO o am ik (nI p) tn tk be an va bd ++ [((am 0), .inl (gI G, 51, .inl (mm (up2 σ 4 p (mnI 9999 (σ 4 p + giveF σ p))))))]) (c_X6_held (kl K) G (σ 0 2) 0 9999) gX6_goes_X6_held rfl rfl rfl ⟨by decide, by decide, rfl⟩ ⟨Nat.le_of_ble_eq_true rfl, Nat.le_of_ble_eq_true rfl⟩ ⟨Nat.zero_le _, Nat.zero_le _⟩ rfl (by decide) rfl rfl (Nat.le_of_ble_eq_true rfl) dX6_goes_111 (fun _ => rfl) (fun zu8 zk8 => ?_)
    refine j_top (hd (σ 0 2) 0 9999) rfl ?_
    refine j_top (σ 0 2) (hd_same hI.2.2.2.1) ?_
    refine j_iast 114 cx 1 2 (wMO o am ik (nI p) tn tk be an va bd ++ [((am 0), .inl (gI G, 51, .inl (upd (mm (up2 σ 4 p (mnI 9999 (σ 4 p + giveF σ p)))) 2 (σ 0 2))))]) rfl rfl (by omega) (by decide) rfl dX6_goes_114 ?_
    refine j_ws (wMO o am ik (nI p) tn tk be an va bd ++ [((am 0), .inl (gI G, 51, .inl (mm (up2 (up2 σ 4 p (mnI 9999 (σ 4 p + giveF σ p))) 0 2 (σ 0 2)))))]) (congrArg (fun zf : Nat → Int32 => wMO o am ik (nI p) tn tk be an va bd ++ [((am 0), .inl (gI G, 51, .inl zf))]) (mm_usc _ _ (by omega))) ?_
    refine j_aload_n 115 cx 1 dX6_goes_115 rfl ?_
    refine j_get 116 cx 0 0 (T := TX6) (v := .ref ((am 0))) (fun _ h => List.mem_cons_of_mem _ (List.mem_append_right _ (h))) (List.mem_of_getElem? (i := 2) rfl) (ci := 5) rfl (by decide) rfl rfl rfl dX6_goes_116 ?_
    refine j_iconst 119 cx 1 dX6_goes_119 (by decide) ?_
    refine j_aload_n 120 cx 1 dX6_goes_120 rfl ?_
    refine j_get 121 cx 0 0 (T := TX6) (v := .ref ((am 0))) (fun _ h => List.mem_cons_of_mem _ (List.mem_append_right _ (h))) (List.mem_of_getElem? (i := 2) rfl) (ci := 5) rfl (by decide) rfl rfl rfl dX6_goes_121 ?_
    refine j_iconst 124 cx 1 dX6_goes_124 (by decide) ?_
    refine j_iald 125 cx 1 1 rfl rfl (by omega) (by decide) dX6_goes_125 ?_
    refine j_top (σ 0 1) rfl ?_
    refine j_iload_n 126 cx 0 dX6_goes_126 rfl ?_
    refine j_iadd 127 cx dX6_goes_127 ?_
    refine j_iconst 128 cx 0 dX6_goes_128 (by decide) ?_
    refine j_bipush 129 cx 99 dX6_goes_129 (by decide) ?_
    refine j_callS_i 131 cx 3 [] [.int ((σ 0 1) + (kTires (σ 2 p))), .int 0, .int 99] (fun _ => wMO o am ik (nI p) tn tk be an va bd ++ [((am 0), .inl (gI G, 51, .inl (mm (up2 (up2 σ 4 p (mnI 9999 (σ 4 p + giveF σ p))) 0 2 (σ 0 2)))))]) (c_X6_held (kl K) G ((σ 0 1) + (kTires (σ 2 p))) 0 99) gX6_goes_X6_held rfl rfl rfl ⟨by decide, by decide, rfl⟩ ⟨Nat.le_of_ble_eq_true rfl, Nat.le_of_ble_eq_true rfl⟩ ⟨Nat.zero_le _, Nat.zero_le _⟩ rfl (by decide) rfl rfl (Nat.le_of_ble_eq_true rfl) dX6_goes_131 (fun _ => rfl) (fun zu9 zk9 => ?_)
    refine j_top (hd ((σ 0 1) + (kTires (σ 2 p))) 0 99) rfl ?_
    refine j_top (mx0 (mnI 99 (σ 0 1 + kTires (σ 2 p)))) (hd_mx _) ?_
    refine j_iast 134 cx 1 1 (wMO o am ik (nI p) tn tk be an va bd ++ [((am 0), .inl (gI G, 51, .inl (upd (mm (up2 (up2 σ 4 p (mnI 9999 (σ 4 p + giveF σ p))) 0 2 (σ 0 2))) 1 (mx0 (mnI 99 (σ 0 1 + kTires (σ 2 p)))))))]) rfl rfl (by omega) (by decide) rfl dX6_goes_134 ?_
    refine j_ws (wMO o am ik (nI p) tn tk be an va bd ++ [((am 0), .inl (gI G, 51, .inl (mm (up2 (up2 (up2 σ 4 p (mnI 9999 (σ 4 p + giveF σ p))) 0 2 (σ 0 2)) 0 1 (mx0 (mnI 99 (σ 0 1 + kTires (σ 2 p))))))))]) (congrArg (fun zf : Nat → Int32 => wMO o am ik (nI p) tn tk be an va bd ++ [((am 0), .inl (gI G, 51, .inl zf))]) (mm_usc _ _ (by omega))) ?_
    refine j_ws (wMO o am ik (nI p) tn tk be an va bd ++ [((am 0), .inl (gI G, 51, .inl (mm (tireF σ))))]) (congrArg (fun zn : Nu => wMO o am ik (nI p) tn tk be an va bd ++ [((am 0), .inl (gI G, 51, .inl (mm zn)))]) ((goes_not (fun h => by rw [zc1] at h; cases h.1)).trans (tireF_some hL).symm)) ?_
    refine j_aload_n 135 cx 1 dX6_goes_135 rfl ?_
    refine j_get 136 cx 0 0 (T := TX6) (v := .ref ((am 0))) (fun _ h => List.mem_cons_of_mem _ (List.mem_append_right _ (h))) (List.mem_of_getElem? (i := 2) rfl) (ci := 5) rfl (by decide) rfl rfl rfl dX6_goes_136 ?_
    refine j_iconst 139 cx 1 dX6_goes_139 (by decide) ?_
    refine j_aload_n 140 cx 1 dX6_goes_140 rfl ?_
    refine j_get 141 cx 0 0 (T := TX6) (v := .ref ((am 0))) (fun _ h => List.mem_cons_of_mem _ (List.mem_append_right _ (h))) (List.mem_of_getElem? (i := 2) rfl) (ci := 5) rfl (by decide) rfl rfl rfl dX6_goes_141 ?_
    refine j_iconst 144 cx 1 dX6_goes_144 (by decide) ?_
    refine j_iald 145 cx 1 1 rfl rfl (by omega) (by decide) dX6_goes_145 ?_
    refine j_top ((tireF σ) 0 1) rfl ?_
    refine j_aload_n 146 cx 1 dX6_goes_146 rfl ?_
    refine j_callV_i 147 cx 0 [0, 1] [] (fun _ => wMO o am ik (nI p) tn tk be an va bd ++ [((am 0), .inl (gI G, 51, .inl (mm (tireF σ))))]) (c_X6_isHoliday (kl K) G o am ik (nI p) tn tk be an va bd (tireF σ)  (inv_tireF hI).dy (inv_tireF hI).dyM ) gX6_goes_X6_isHoliday rfl rfl rfl ⟨rfl, by decide, by decide, rfl⟩ ⟨Nat.le_of_ble_eq_true rfl, Nat.le_of_ble_eq_true rfl⟩ ⟨Nat.zero_le _, Nat.zero_le _⟩ rfl (by decide) (ci := 5) 0 rfl rfl rfl rfl rfl (Nat.le_of_ble_eq_true rfl) dX6_goes_147 (fun _ => rfl) (fun zu10 zk10 => ?_)
    refine j_top (bI (hol (tireF σ))) rfl ?_
    refine j_ifB_eq 150 cx 157 dX6_goes_150 (by decide) (fun zc2 => ?_) (fun zc2 => ?_)
    · skip
      refine j_iconst 157 cx 0 dX6_goes_157 (by decide) ?_
      refine j_isub 158 cx dX6_goes_158 ?_
      refine j_top ((tireF σ) 0 1) (i_sub0 _) ?_
      refine j_iconst 159 cx 0 dX6_goes_159 (by decide) ?_
      refine j_bipush 160 cx 99 dX6_goes_160 (by decide) ?_
      refine j_callS_i 162 cx 3 [] [.int ((tireF σ) 0 1), .int 0, .int 99] (fun _ => wMO o am ik (nI p) tn tk be an va bd ++ [((am 0), .inl (gI G, 51, .inl (mm (tireF σ))))]) (c_X6_held (kl K) G ((tireF σ) 0 1) 0 99) gX6_goes_X6_held rfl rfl rfl ⟨by decide, by decide, rfl⟩ ⟨Nat.le_of_ble_eq_true rfl, Nat.le_of_ble_eq_true rfl⟩ ⟨Nat.zero_le _, Nat.zero_le _⟩ rfl (by decide) rfl rfl (Nat.le_of_ble_eq_true rfl) dX6_goes_162 (fun _ => rfl) (fun zu11 zk11 => ?_)
      refine j_top (hd ((tireF σ) 0 1) 0 99) rfl ?_
      refine j_top ((tireF σ) 0 1) (hd_99 (inv_tireF hI).2.2.1) ?_
      refine j_iast 165 cx 1 1 (wMO o am ik (nI p) tn tk be an va bd ++ [((am 0), .inl (gI G, 51, .inl (upd (mm (tireF σ)) 1 ((tireF σ) 0 1))))]) rfl rfl (by omega) (by decide) rfl dX6_goes_165 ?_
      refine j_ws (wMO o am ik (nI p) tn tk be an va bd ++ [((am 0), .inl (gI G, 51, .inl (mm (up2 (tireF σ) 0 1 ((tireF σ) 0 1)))))]) (congrArg (fun zf : Nat → Int32 => wMO o am ik (nI p) tn tk be an va bd ++ [((am 0), .inl (gI G, 51, .inl zf))]) (mm_usc _ _ (by omega))) ?_
      refine j_ws (wMO o am ik (nI p) tn tk be an va bd ++ [((am 0), .inl (gI G, 51, .inl (mm (holF (tireF σ)))))]) (congrArg (fun zn : Nu => wMO o am ik (nI p) tn tk be an va bd ++ [((am 0), .inl (gI G, 51, .inl (mm zn)))]) ((up2_same (tireF σ) 0 1).trans (holF_f zc2).symm)) ?_
      refine j_iconst 166 cx 0 dX6_goes_166 (by decide) ?_
      refine j_istore_n 167 cx [(2, .int 0), (1, .int (kTires (σ 2 p))), (0, .ref o)] dX6_goes_167 (by decide) rfl ?_
      have L168 : ∀ d : Nat, ∀ (k : Nat), (k + d = szN σ) → JJ G K 0 0 (wMO o am ik (nI p) tn tk be an va bd ++ [((am 0), .inl (gI G, 51, .inl (mm (offF (holF (tireF σ)) k))))]) [(2, .int (nI k)), (1, .int (kTires (σ 2 p))), (0, .ref o)] 168 [] := by
        intro d
        induction d with
        | zero =>
          intro k hk
          refine j_iload_n 168 cx 0 dX6_goes_168 rfl ?_
          refine j_aload_n 169 cx 2 dX6_goes_169 rfl ?_
          refine j_get 170 cx 0 0 (T := TX6) (v := .ref ((am 0))) (fun _ h => List.mem_cons_of_mem _ (List.mem_append_right _ (h))) (List.mem_of_getElem? (i := 2) rfl) (ci := 5) rfl (by decide) rfl rfl rfl dX6_goes_170 ?_
          refine j_iconst 173 cx 3 dX6_goes_173 (by decide) ?_
          refine j_iald 174 cx 1 3 rfl rfl (by omega) (by decide) dX6_goes_174 ?_
          refine j_top ((offF (holF (tireF σ)) k) 0 3) rfl ?_
          refine j_top (nI (szN σ)) ((ht_size σ k).trans hI.sz) ?_
          refine j_icmp_ge_T 175 cx 204 dX6_goes_175 (by decide) (nI_le (by omega) (by omega)) ?_
          refine j_aload_n 204 cx 2 dX6_goes_204 rfl ?_
          refine j_get 205 cx 0 0 (T := TX6) (v := .ref ((am 0))) (fun _ h => List.mem_cons_of_mem _ (List.mem_append_right _ (h))) (List.mem_of_getElem? (i := 2) rfl) (ci := 5) rfl (by decide) rfl rfl rfl dX6_goes_205 ?_
          refine j_iconst 208 cx 0 dX6_goes_208 (by decide) ?_
          refine j_dup2 209 cx dX6_goes_209 rfl rfl ?_
          refine j_iald 210 cx 1 0 rfl rfl (by omega) (by decide) dX6_goes_210 ?_
          refine j_top ((offF (holF (tireF σ)) k) 0 0) rfl ?_
          refine j_iconst 211 cx 1 dX6_goes_211 (by decide) ?_
          refine j_iadd 212 cx dX6_goes_212 ?_
          refine j_iast 213 cx 1 0 (wMO o am ik (nI p) tn tk be an va bd ++ [((am 0), .inl (gI G, 51, .inl (upd (mm (offF (holF (tireF σ)) k)) 0 (((offF (holF (tireF σ)) k) 0 0) + 1))))]) rfl rfl (by omega) (by decide) rfl dX6_goes_213 ?_
          refine j_ws (wMO o am ik (nI p) tn tk be an va bd ++ [((am 0), .inl (gI G, 51, .inl (mm (up2 (offF (holF (tireF σ)) k) 0 0 (((offF (holF (tireF σ)) k) 0 0) + 1)))))]) (congrArg (fun zf : Nat → Int32 => wMO o am ik (nI p) tn tk be an va bd ++ [((am 0), .inl (gI G, 51, .inl zf))]) (mm_usc _ _ (by omega))) ?_
          exact fin () _ _ _ dX6_goes_214 (congrArg (fun zn : Nu => wMO o am ik (nI p) tn tk be an va bd ++ [((am 0), .inl (gI G, 51, .inl (mm zn)))]) (by rw [show k = szN σ from by omega, dayF, ht_day])) trivial
        | succ d ih168 =>
          intro k hk
          refine j_iload_n 168 cx 0 dX6_goes_168 rfl ?_
          refine j_aload_n 169 cx 2 dX6_goes_169 rfl ?_
          refine j_get 170 cx 0 0 (T := TX6) (v := .ref ((am 0))) (fun _ h => List.mem_cons_of_mem _ (List.mem_append_right _ (h))) (List.mem_of_getElem? (i := 2) rfl) (ci := 5) rfl (by decide) rfl rfl rfl dX6_goes_170 ?_
          refine j_iconst 173 cx 3 dX6_goes_173 (by decide) ?_
          refine j_iald 174 cx 1 3 rfl rfl (by omega) (by decide) dX6_goes_174 ?_
          refine j_top ((offF (holF (tireF σ)) k) 0 3) rfl ?_
          refine j_top (nI (szN σ)) ((ht_size σ k).trans hI.sz) ?_
          refine j_icmp_ge_F 175 cx 204 dX6_goes_175 (by decide) (nI_ge (by omega) (by omega)) ?_
          refine j_aload_n 178 cx 2 dX6_goes_178 rfl ?_
          refine j_iload_n 179 cx 0 dX6_goes_179 rfl ?_
          refine j_iconst 180 cx 4 dX6_goes_180 (by decide) ?_
          refine j_aload_n 181 cx 2 dX6_goes_181 rfl ?_
          refine j_iload_n 182 cx 0 dX6_goes_182 rfl ?_
          refine j_iconst 183 cx 4 dX6_goes_183 (by decide) ?_
          refine j_callV_i 184 cx 2 [0, 1] [.int (nI k), .int 4] (fun _ => wMO o am ik (nI p) tn tk be an va bd ++ [((am 0), .inl (gI G, 51, .inl (mm (offF (holF (tireF σ)) k))))]) (c_X6_it (kl K) G o am ik (nI p) tn tk be an va bd (offF (holF (tireF σ)) k) k 4 (by omega) (by omega) ) gX6_goes_X6_it rfl rfl rfl ⟨rfl, by decide, by decide, rfl⟩ ⟨Nat.le_of_ble_eq_true rfl, Nat.le_of_ble_eq_true rfl⟩ ⟨Nat.zero_le _, Nat.zero_le _⟩ rfl (by decide) (ci := 5) 0 rfl rfl rfl rfl rfl (Nat.le_of_ble_eq_true rfl) dX6_goes_184 (fun _ => rfl) (fun zu12 zk12 => ?_)
          refine j_top ((offF (holF (tireF σ)) k) 6 k) rfl ?_
          refine j_iconst 187 cx 1 dX6_goes_187 (by decide) ?_
          refine j_isub 188 cx dX6_goes_188 ?_
          refine j_iconst 189 cx 0 dX6_goes_189 (by decide) ?_
          refine j_bipush 190 cx 99 dX6_goes_190 (by decide) ?_
          refine j_callS_i 192 cx 3 [] [.int (((offF (holF (tireF σ)) k) 6 k) - 1), .int 0, .int 99] (fun _ => wMO o am ik (nI p) tn tk be an va bd ++ [((am 0), .inl (gI G, 51, .inl (mm (offF (holF (tireF σ)) k))))]) (c_X6_held (kl K) G (((offF (holF (tireF σ)) k) 6 k) - 1) 0 99) gX6_goes_X6_held rfl rfl rfl ⟨by decide, by decide, rfl⟩ ⟨Nat.le_of_ble_eq_true rfl, Nat.le_of_ble_eq_true rfl⟩ ⟨Nat.zero_le _, Nat.zero_le _⟩ rfl (by decide) rfl rfl (Nat.le_of_ble_eq_true rfl) dX6_goes_192 (fun _ => rfl) (fun zu13 zk13 => ?_)
          refine j_top (hd (((offF (holF (tireF σ)) k) 6 k) - 1) 0 99) rfl ?_
          refine j_top (mx0 ((offF (holF (tireF σ)) k) 6 k - 1)) (hd_mx0 (of_1 (inv_offF (inv_holF (inv_tireF hI)) k) k)) ?_
          refine j_callV_v 195 cx 3 [0, 1] [.int (nI k), .int 4, .int (mx0 ((offF (holF (tireF σ)) k) 6 k - 1))] (fun _ => wMO o am ik (nI p) tn tk be an va bd ++ [((am 0), .inl (gI G, 51, .inl (mm (up2 (offF (holF (tireF σ)) k) 6 k (mx0 ((offF (holF (tireF σ)) k) 6 k - 1))))))]) (c_X6_put (kl K) G o am ik (nI p) tn tk be an va bd (offF (holF (tireF σ)) k) k 4 (mx0 ((offF (holF (tireF σ)) k) 6 k - 1)) (by omega) (by omega)) gX6_goes_X6_put rfl rfl rfl ⟨rfl, by decide, by decide, rfl⟩ ⟨Nat.le_of_ble_eq_true rfl, Nat.le_of_ble_eq_true rfl⟩ ⟨Nat.zero_le _, Nat.zero_le _⟩ rfl (by decide) (ci := 5) 0 rfl rfl rfl rfl rfl (Nat.le_of_ble_eq_true rfl) dX6_goes_195 (fun _ => rfl) (fun zu14 zk14 => ?_)
          refine j_iinc 198 cx [(2, .int (nI (k + 1))), (1, .int (kTires (σ 2 p))), (0, .ref o)] 0 (nI (k + 1)) dX6_goes_198 rfl (iinc1 k) (by decide) rfl ?_
          refine j_goto 201 cx 168 dX6_goes_201 (by decide) ?_
          have h9 := ih168 (k + 1) (by omega)
          exact h9
      exact L168 (szN σ) 0 (by omega)
    · skip
      refine j_iconst 153 cx 4 dX6_goes_153 (by decide) ?_
      refine j_goto 154 cx 158 dX6_goes_154 (by decide) ?_
      refine j_isub 158 cx dX6_goes_158 ?_
      refine j_iconst 159 cx 0 dX6_goes_159 (by decide) ?_
      refine j_bipush 160 cx 99 dX6_goes_160 (by decide) ?_
      refine j_callS_i 162 cx 3 [] [.int (((tireF σ) 0 1) - 4), .int 0, .int 99] (fun _ => wMO o am ik (nI p) tn tk be an va bd ++ [((am 0), .inl (gI G, 51, .inl (mm (tireF σ))))]) (c_X6_held (kl K) G (((tireF σ) 0 1) - 4) 0 99) gX6_goes_X6_held rfl rfl rfl ⟨by decide, by decide, rfl⟩ ⟨Nat.le_of_ble_eq_true rfl, Nat.le_of_ble_eq_true rfl⟩ ⟨Nat.zero_le _, Nat.zero_le _⟩ rfl (by decide) rfl rfl (Nat.le_of_ble_eq_true rfl) dX6_goes_162 (fun _ => rfl) (fun zu15 zk15 => ?_)
      refine j_top (hd (((tireF σ) 0 1) - 4) 0 99) rfl ?_
      refine j_top (mx0 ((tireF σ) 0 1 - 4)) (hd_mx0 (wy_4 (inv_tireF hI))) ?_
      refine j_iast 165 cx 1 1 (wMO o am ik (nI p) tn tk be an va bd ++ [((am 0), .inl (gI G, 51, .inl (upd (mm (tireF σ)) 1 (mx0 ((tireF σ) 0 1 - 4)))))]) rfl rfl (by omega) (by decide) rfl dX6_goes_165 ?_
      refine j_ws (wMO o am ik (nI p) tn tk be an va bd ++ [((am 0), .inl (gI G, 51, .inl (mm (up2 (tireF σ) 0 1 (mx0 ((tireF σ) 0 1 - 4))))))]) (congrArg (fun zf : Nat → Int32 => wMO o am ik (nI p) tn tk be an va bd ++ [((am 0), .inl (gI G, 51, .inl zf))]) (mm_usc _ _ (by omega))) ?_
      refine j_ws (wMO o am ik (nI p) tn tk be an va bd ++ [((am 0), .inl (gI G, 51, .inl (mm (holF (tireF σ)))))]) (congrArg (fun zn : Nu => wMO o am ik (nI p) tn tk be an va bd ++ [((am 0), .inl (gI G, 51, .inl (mm zn)))]) (holF_t zc2).symm) ?_
      refine j_iconst 166 cx 0 dX6_goes_166 (by decide) ?_
      refine j_istore_n 167 cx [(2, .int 0), (1, .int (kTires (σ 2 p))), (0, .ref o)] dX6_goes_167 (by decide) rfl ?_
      have L168 : ∀ d : Nat, ∀ (k : Nat), (k + d = szN σ) → JJ G K 0 0 (wMO o am ik (nI p) tn tk be an va bd ++ [((am 0), .inl (gI G, 51, .inl (mm (offF (holF (tireF σ)) k))))]) [(2, .int (nI k)), (1, .int (kTires (σ 2 p))), (0, .ref o)] 168 [] := by
        intro d
        induction d with
        | zero =>
          intro k hk
          refine j_iload_n 168 cx 0 dX6_goes_168 rfl ?_
          refine j_aload_n 169 cx 2 dX6_goes_169 rfl ?_
          refine j_get 170 cx 0 0 (T := TX6) (v := .ref ((am 0))) (fun _ h => List.mem_cons_of_mem _ (List.mem_append_right _ (h))) (List.mem_of_getElem? (i := 2) rfl) (ci := 5) rfl (by decide) rfl rfl rfl dX6_goes_170 ?_
          refine j_iconst 173 cx 3 dX6_goes_173 (by decide) ?_
          refine j_iald 174 cx 1 3 rfl rfl (by omega) (by decide) dX6_goes_174 ?_
          refine j_top ((offF (holF (tireF σ)) k) 0 3) rfl ?_
          refine j_top (nI (szN σ)) ((ht_size σ k).trans hI.sz) ?_
          refine j_icmp_ge_T 175 cx 204 dX6_goes_175 (by decide) (nI_le (by omega) (by omega)) ?_
          refine j_aload_n 204 cx 2 dX6_goes_204 rfl ?_
          refine j_get 205 cx 0 0 (T := TX6) (v := .ref ((am 0))) (fun _ h => List.mem_cons_of_mem _ (List.mem_append_right _ (h))) (List.mem_of_getElem? (i := 2) rfl) (ci := 5) rfl (by decide) rfl rfl rfl dX6_goes_205 ?_
          refine j_iconst 208 cx 0 dX6_goes_208 (by decide) ?_
          refine j_dup2 209 cx dX6_goes_209 rfl rfl ?_
          refine j_iald 210 cx 1 0 rfl rfl (by omega) (by decide) dX6_goes_210 ?_
          refine j_top ((offF (holF (tireF σ)) k) 0 0) rfl ?_
          refine j_iconst 211 cx 1 dX6_goes_211 (by decide) ?_
          refine j_iadd 212 cx dX6_goes_212 ?_
          refine j_iast 213 cx 1 0 (wMO o am ik (nI p) tn tk be an va bd ++ [((am 0), .inl (gI G, 51, .inl (upd (mm (offF (holF (tireF σ)) k)) 0 (((offF (holF (tireF σ)) k) 0 0) + 1))))]) rfl rfl (by omega) (by decide) rfl dX6_goes_213 ?_
          refine j_ws (wMO o am ik (nI p) tn tk be an va bd ++ [((am 0), .inl (gI G, 51, .inl (mm (up2 (offF (holF (tireF σ)) k) 0 0 (((offF (holF (tireF σ)) k) 0 0) + 1)))))]) (congrArg (fun zf : Nat → Int32 => wMO o am ik (nI p) tn tk be an va bd ++ [((am 0), .inl (gI G, 51, .inl zf))]) (mm_usc _ _ (by omega))) ?_
          exact fin () _ _ _ dX6_goes_214 (congrArg (fun zn : Nu => wMO o am ik (nI p) tn tk be an va bd ++ [((am 0), .inl (gI G, 51, .inl (mm zn)))]) (by rw [show k = szN σ from by omega, dayF, ht_day])) trivial
        | succ d ih168 =>
          intro k hk
          refine j_iload_n 168 cx 0 dX6_goes_168 rfl ?_
          refine j_aload_n 169 cx 2 dX6_goes_169 rfl ?_
          refine j_get 170 cx 0 0 (T := TX6) (v := .ref ((am 0))) (fun _ h => List.mem_cons_of_mem _ (List.mem_append_right _ (h))) (List.mem_of_getElem? (i := 2) rfl) (ci := 5) rfl (by decide) rfl rfl rfl dX6_goes_170 ?_
          refine j_iconst 173 cx 3 dX6_goes_173 (by decide) ?_
          refine j_iald 174 cx 1 3 rfl rfl (by omega) (by decide) dX6_goes_174 ?_
          refine j_top ((offF (holF (tireF σ)) k) 0 3) rfl ?_
          refine j_top (nI (szN σ)) ((ht_size σ k).trans hI.sz) ?_
          refine j_icmp_ge_F 175 cx 204 dX6_goes_175 (by decide) (nI_ge (by omega) (by omega)) ?_
          refine j_aload_n 178 cx 2 dX6_goes_178 rfl ?_
          refine j_iload_n 179 cx 0 dX6_goes_179 rfl ?_
          refine j_iconst 180 cx 4 dX6_goes_180 (by decide) ?_
          refine j_aload_n 181 cx 2 dX6_goes_181 rfl ?_
          refine j_iload_n 182 cx 0 dX6_goes_182 rfl ?_
          refine j_iconst 183 cx 4 dX6_goes_183 (by decide) ?_
          refine j_callV_i 184 cx 2 [0, 1] [.int (nI k), .int 4] (fun _ => wMO o am ik (nI p) tn tk be an va bd ++ [((am 0), .inl (gI G, 51, .inl (mm (offF (holF (tireF σ)) k))))]) (c_X6_it (kl K) G o am ik (nI p) tn tk be an va bd (offF (holF (tireF σ)) k) k 4 (by omega) (by omega) ) gX6_goes_X6_it rfl rfl rfl ⟨rfl, by decide, by decide, rfl⟩ ⟨Nat.le_of_ble_eq_true rfl, Nat.le_of_ble_eq_true rfl⟩ ⟨Nat.zero_le _, Nat.zero_le _⟩ rfl (by decide) (ci := 5) 0 rfl rfl rfl rfl rfl (Nat.le_of_ble_eq_true rfl) dX6_goes_184 (fun _ => rfl) (fun zu16 zk16 => ?_)
          refine j_top ((offF (holF (tireF σ)) k) 6 k) rfl ?_
          refine j_iconst 187 cx 1 dX6_goes_187 (by decide) ?_
          refine j_isub 188 cx dX6_goes_188 ?_
          refine j_iconst 189 cx 0 dX6_goes_189 (by decide) ?_
          refine j_bipush 190 cx 99 dX6_goes_190 (by decide) ?_
          refine j_callS_i 192 cx 3 [] [.int (((offF (holF (tireF σ)) k) 6 k) - 1), .int 0, .int 99] (fun _ => wMO o am ik (nI p) tn tk be an va bd ++ [((am 0), .inl (gI G, 51, .inl (mm (offF (holF (tireF σ)) k))))]) (c_X6_held (kl K) G (((offF (holF (tireF σ)) k) 6 k) - 1) 0 99) gX6_goes_X6_held rfl rfl rfl ⟨by decide, by decide, rfl⟩ ⟨Nat.le_of_ble_eq_true rfl, Nat.le_of_ble_eq_true rfl⟩ ⟨Nat.zero_le _, Nat.zero_le _⟩ rfl (by decide) rfl rfl (Nat.le_of_ble_eq_true rfl) dX6_goes_192 (fun _ => rfl) (fun zu17 zk17 => ?_)
          refine j_top (hd (((offF (holF (tireF σ)) k) 6 k) - 1) 0 99) rfl ?_
          refine j_top (mx0 ((offF (holF (tireF σ)) k) 6 k - 1)) (hd_mx0 (of_1 (inv_offF (inv_holF (inv_tireF hI)) k) k)) ?_
          refine j_callV_v 195 cx 3 [0, 1] [.int (nI k), .int 4, .int (mx0 ((offF (holF (tireF σ)) k) 6 k - 1))] (fun _ => wMO o am ik (nI p) tn tk be an va bd ++ [((am 0), .inl (gI G, 51, .inl (mm (up2 (offF (holF (tireF σ)) k) 6 k (mx0 ((offF (holF (tireF σ)) k) 6 k - 1))))))]) (c_X6_put (kl K) G o am ik (nI p) tn tk be an va bd (offF (holF (tireF σ)) k) k 4 (mx0 ((offF (holF (tireF σ)) k) 6 k - 1)) (by omega) (by omega)) gX6_goes_X6_put rfl rfl rfl ⟨rfl, by decide, by decide, rfl⟩ ⟨Nat.le_of_ble_eq_true rfl, Nat.le_of_ble_eq_true rfl⟩ ⟨Nat.zero_le _, Nat.zero_le _⟩ rfl (by decide) (ci := 5) 0 rfl rfl rfl rfl rfl (Nat.le_of_ble_eq_true rfl) dX6_goes_195 (fun _ => rfl) (fun zu18 zk18 => ?_)
          refine j_iinc 198 cx [(2, .int (nI (k + 1))), (1, .int (kTires (σ 2 p))), (0, .ref o)] 0 (nI (k + 1)) dX6_goes_198 rfl (iinc1 k) (by decide) rfl ?_
          refine j_goto 201 cx 168 dX6_goes_201 (by decide) ?_
          have h9 := ih168 (k + 1) (by omega)
          exact h9
      exact L168 (szN σ) 0 (by omega)
  · skip
    refine j_aload_n 83 cx 1 dX6_goes_83 rfl ?_
    refine j_get 84 cx 0 0 (T := TX6) (v := .ref ((am 0))) (fun _ h => List.mem_cons_of_mem _ (List.mem_append_right _ (h))) (List.mem_of_getElem? (i := 2) rfl) (ci := 5) rfl (by decide) rfl rfl rfl dX6_goes_84 ?_
    refine j_iconst 87 cx 0 dX6_goes_87 (by decide) ?_
    refine j_iald 88 cx 1 0 rfl rfl (by omega) (by decide) dX6_goes_88 ?_
    refine j_top (σ 0 0) rfl ?_
    refine j_aload_n 89 cx 1 dX6_goes_89 rfl ?_
    refine j_aload_n 90 cx 1 dX6_goes_90 rfl ?_
    refine j_get 91 cx 0 5 (T := TX6) (v := .int (nI p)) (fun _ h => List.mem_cons_of_mem _ (List.mem_append_right _ (h))) (List.mem_of_getElem? (i := 1) rfl) (ci := 5) rfl (by decide) rfl rfl rfl dX6_goes_91 ?_
    refine j_iconst 94 cx 3 dX6_goes_94 (by decide) ?_
    refine j_callV_i 95 cx 2 [0, 1] [.int (nI p), .int 3] (fun _ => wMO o am ik (nI p) tn tk be an va bd ++ [((am 0), .inl (gI G, 51, .inl (mm (up2 σ 4 p (mnI 9999 (σ 4 p + giveF σ p))))))]) (c_X6_it (kl K) G o am ik (nI p) tn tk be an va bd (up2 σ 4 p (mnI 9999 (σ 4 p + giveF σ p))) p 3 (by omega) (by omega) ) gX6_goes_X6_it rfl rfl rfl ⟨rfl, by decide, by decide, rfl⟩ ⟨Nat.le_of_ble_eq_true rfl, Nat.le_of_ble_eq_true rfl⟩ ⟨Nat.zero_le _, Nat.zero_le _⟩ rfl (by decide) (ci := 5) 0 rfl rfl rfl rfl rfl (Nat.le_of_ble_eq_true rfl) dX6_goes_95 (fun _ => rfl) (fun zu19 zk19 => ?_)
    refine j_top (σ 5 p) rfl ?_
    refine j_icmp_le 98 cx 105 dX6_goes_98 (by decide) (fun zc3 => ?_) (fun zc3 => ?_)
    · skip
      refine j_iconst 105 cx 0 dX6_goes_105 (by decide) ?_
      refine j_iadd 106 cx dX6_goes_106 ?_
      refine j_top (σ 0 2) (i_add0 _) ?_
      refine j_iconst 107 cx 0 dX6_goes_107 (by decide) ?_
      refine j_sipush 108 cx 9999 dX6_goes_108 (by decide) ?_
      refine j_callS_i 111 cx 3 [] [.int (σ 0 2), .int 0, .int 9999] (fun _ => wMO o am ik (nI p) tn tk be an va bd ++ [((am 0), .inl (gI G, 51, .inl (mm (up2 σ 4 p (mnI 9999 (σ 4 p + giveF σ p))))))]) (c_X6_held (kl K) G (σ 0 2) 0 9999) gX6_goes_X6_held rfl rfl rfl ⟨by decide, by decide, rfl⟩ ⟨Nat.le_of_ble_eq_true rfl, Nat.le_of_ble_eq_true rfl⟩ ⟨Nat.zero_le _, Nat.zero_le _⟩ rfl (by decide) rfl rfl (Nat.le_of_ble_eq_true rfl) dX6_goes_111 (fun _ => rfl) (fun zu20 zk20 => ?_)
      refine j_top (hd (σ 0 2) 0 9999) rfl ?_
      refine j_top (σ 0 2) (hd_same hI.2.2.2.1) ?_
      refine j_iast 114 cx 1 2 (wMO o am ik (nI p) tn tk be an va bd ++ [((am 0), .inl (gI G, 51, .inl (upd (mm (up2 σ 4 p (mnI 9999 (σ 4 p + giveF σ p)))) 2 (σ 0 2))))]) rfl rfl (by omega) (by decide) rfl dX6_goes_114 ?_
      refine j_ws (wMO o am ik (nI p) tn tk be an va bd ++ [((am 0), .inl (gI G, 51, .inl (mm (up2 (up2 σ 4 p (mnI 9999 (σ 4 p + giveF σ p))) 0 2 (σ 0 2)))))]) (congrArg (fun zf : Nat → Int32 => wMO o am ik (nI p) tn tk be an va bd ++ [((am 0), .inl (gI G, 51, .inl zf))]) (mm_usc _ _ (by omega))) ?_
      refine j_aload_n 115 cx 1 dX6_goes_115 rfl ?_
      refine j_get 116 cx 0 0 (T := TX6) (v := .ref ((am 0))) (fun _ h => List.mem_cons_of_mem _ (List.mem_append_right _ (h))) (List.mem_of_getElem? (i := 2) rfl) (ci := 5) rfl (by decide) rfl rfl rfl dX6_goes_116 ?_
      refine j_iconst 119 cx 1 dX6_goes_119 (by decide) ?_
      refine j_aload_n 120 cx 1 dX6_goes_120 rfl ?_
      refine j_get 121 cx 0 0 (T := TX6) (v := .ref ((am 0))) (fun _ h => List.mem_cons_of_mem _ (List.mem_append_right _ (h))) (List.mem_of_getElem? (i := 2) rfl) (ci := 5) rfl (by decide) rfl rfl rfl dX6_goes_121 ?_
      refine j_iconst 124 cx 1 dX6_goes_124 (by decide) ?_
      refine j_iald 125 cx 1 1 rfl rfl (by omega) (by decide) dX6_goes_125 ?_
      refine j_top (σ 0 1) rfl ?_
      refine j_iload_n 126 cx 0 dX6_goes_126 rfl ?_
      refine j_iadd 127 cx dX6_goes_127 ?_
      refine j_iconst 128 cx 0 dX6_goes_128 (by decide) ?_
      refine j_bipush 129 cx 99 dX6_goes_129 (by decide) ?_
      refine j_callS_i 131 cx 3 [] [.int ((σ 0 1) + (kTires (σ 2 p))), .int 0, .int 99] (fun _ => wMO o am ik (nI p) tn tk be an va bd ++ [((am 0), .inl (gI G, 51, .inl (mm (up2 (up2 σ 4 p (mnI 9999 (σ 4 p + giveF σ p))) 0 2 (σ 0 2)))))]) (c_X6_held (kl K) G ((σ 0 1) + (kTires (σ 2 p))) 0 99) gX6_goes_X6_held rfl rfl rfl ⟨by decide, by decide, rfl⟩ ⟨Nat.le_of_ble_eq_true rfl, Nat.le_of_ble_eq_true rfl⟩ ⟨Nat.zero_le _, Nat.zero_le _⟩ rfl (by decide) rfl rfl (Nat.le_of_ble_eq_true rfl) dX6_goes_131 (fun _ => rfl) (fun zu21 zk21 => ?_)
      refine j_top (hd ((σ 0 1) + (kTires (σ 2 p))) 0 99) rfl ?_
      refine j_top (mx0 (mnI 99 (σ 0 1 + kTires (σ 2 p)))) (hd_mx _) ?_
      refine j_iast 134 cx 1 1 (wMO o am ik (nI p) tn tk be an va bd ++ [((am 0), .inl (gI G, 51, .inl (upd (mm (up2 (up2 σ 4 p (mnI 9999 (σ 4 p + giveF σ p))) 0 2 (σ 0 2))) 1 (mx0 (mnI 99 (σ 0 1 + kTires (σ 2 p)))))))]) rfl rfl (by omega) (by decide) rfl dX6_goes_134 ?_
      refine j_ws (wMO o am ik (nI p) tn tk be an va bd ++ [((am 0), .inl (gI G, 51, .inl (mm (up2 (up2 (up2 σ 4 p (mnI 9999 (σ 4 p + giveF σ p))) 0 2 (σ 0 2)) 0 1 (mx0 (mnI 99 (σ 0 1 + kTires (σ 2 p))))))))]) (congrArg (fun zf : Nat → Int32 => wMO o am ik (nI p) tn tk be an va bd ++ [((am 0), .inl (gI G, 51, .inl zf))]) (mm_usc _ _ (by omega))) ?_
      refine j_ws (wMO o am ik (nI p) tn tk be an va bd ++ [((am 0), .inl (gI G, 51, .inl (mm (tireF σ))))]) (congrArg (fun zn : Nu => wMO o am ik (nI p) tn tk be an va bd ++ [((am 0), .inl (gI G, 51, .inl (mm zn)))]) ((goes_not (fun h => absurd h.2 (Int32.not_lt.mpr zc3))).trans (tireF_some hL).symm)) ?_
      refine j_aload_n 135 cx 1 dX6_goes_135 rfl ?_
      refine j_get 136 cx 0 0 (T := TX6) (v := .ref ((am 0))) (fun _ h => List.mem_cons_of_mem _ (List.mem_append_right _ (h))) (List.mem_of_getElem? (i := 2) rfl) (ci := 5) rfl (by decide) rfl rfl rfl dX6_goes_136 ?_
      refine j_iconst 139 cx 1 dX6_goes_139 (by decide) ?_
      refine j_aload_n 140 cx 1 dX6_goes_140 rfl ?_
      refine j_get 141 cx 0 0 (T := TX6) (v := .ref ((am 0))) (fun _ h => List.mem_cons_of_mem _ (List.mem_append_right _ (h))) (List.mem_of_getElem? (i := 2) rfl) (ci := 5) rfl (by decide) rfl rfl rfl dX6_goes_141 ?_
      refine j_iconst 144 cx 1 dX6_goes_144 (by decide) ?_
      refine j_iald 145 cx 1 1 rfl rfl (by omega) (by decide) dX6_goes_145 ?_
      refine j_top ((tireF σ) 0 1) rfl ?_
      refine j_aload_n 146 cx 1 dX6_goes_146 rfl ?_
      refine j_callV_i 147 cx 0 [0, 1] [] (fun _ => wMO o am ik (nI p) tn tk be an va bd ++ [((am 0), .inl (gI G, 51, .inl (mm (tireF σ))))]) (c_X6_isHoliday (kl K) G o am ik (nI p) tn tk be an va bd (tireF σ)  (inv_tireF hI).dy (inv_tireF hI).dyM ) gX6_goes_X6_isHoliday rfl rfl rfl ⟨rfl, by decide, by decide, rfl⟩ ⟨Nat.le_of_ble_eq_true rfl, Nat.le_of_ble_eq_true rfl⟩ ⟨Nat.zero_le _, Nat.zero_le _⟩ rfl (by decide) (ci := 5) 0 rfl rfl rfl rfl rfl (Nat.le_of_ble_eq_true rfl) dX6_goes_147 (fun _ => rfl) (fun zu22 zk22 => ?_)
      refine j_top (bI (hol (tireF σ))) rfl ?_
      refine j_ifB_eq 150 cx 157 dX6_goes_150 (by decide) (fun zc4 => ?_) (fun zc4 => ?_)
      · skip
        refine j_iconst 157 cx 0 dX6_goes_157 (by decide) ?_
        refine j_isub 158 cx dX6_goes_158 ?_
        refine j_top ((tireF σ) 0 1) (i_sub0 _) ?_
        refine j_iconst 159 cx 0 dX6_goes_159 (by decide) ?_
        refine j_bipush 160 cx 99 dX6_goes_160 (by decide) ?_
        refine j_callS_i 162 cx 3 [] [.int ((tireF σ) 0 1), .int 0, .int 99] (fun _ => wMO o am ik (nI p) tn tk be an va bd ++ [((am 0), .inl (gI G, 51, .inl (mm (tireF σ))))]) (c_X6_held (kl K) G ((tireF σ) 0 1) 0 99) gX6_goes_X6_held rfl rfl rfl ⟨by decide, by decide, rfl⟩ ⟨Nat.le_of_ble_eq_true rfl, Nat.le_of_ble_eq_true rfl⟩ ⟨Nat.zero_le _, Nat.zero_le _⟩ rfl (by decide) rfl rfl (Nat.le_of_ble_eq_true rfl) dX6_goes_162 (fun _ => rfl) (fun zu23 zk23 => ?_)
        refine j_top (hd ((tireF σ) 0 1) 0 99) rfl ?_
        refine j_top ((tireF σ) 0 1) (hd_99 (inv_tireF hI).2.2.1) ?_
        refine j_iast 165 cx 1 1 (wMO o am ik (nI p) tn tk be an va bd ++ [((am 0), .inl (gI G, 51, .inl (upd (mm (tireF σ)) 1 ((tireF σ) 0 1))))]) rfl rfl (by omega) (by decide) rfl dX6_goes_165 ?_
        refine j_ws (wMO o am ik (nI p) tn tk be an va bd ++ [((am 0), .inl (gI G, 51, .inl (mm (up2 (tireF σ) 0 1 ((tireF σ) 0 1)))))]) (congrArg (fun zf : Nat → Int32 => wMO o am ik (nI p) tn tk be an va bd ++ [((am 0), .inl (gI G, 51, .inl zf))]) (mm_usc _ _ (by omega))) ?_
        refine j_ws (wMO o am ik (nI p) tn tk be an va bd ++ [((am 0), .inl (gI G, 51, .inl (mm (holF (tireF σ)))))]) (congrArg (fun zn : Nu => wMO o am ik (nI p) tn tk be an va bd ++ [((am 0), .inl (gI G, 51, .inl (mm zn)))]) ((up2_same (tireF σ) 0 1).trans (holF_f zc4).symm)) ?_
        refine j_iconst 166 cx 0 dX6_goes_166 (by decide) ?_
        refine j_istore_n 167 cx [(2, .int 0), (1, .int (kTires (σ 2 p))), (0, .ref o)] dX6_goes_167 (by decide) rfl ?_
        have L168 : ∀ d : Nat, ∀ (k : Nat), (k + d = szN σ) → JJ G K 0 0 (wMO o am ik (nI p) tn tk be an va bd ++ [((am 0), .inl (gI G, 51, .inl (mm (offF (holF (tireF σ)) k))))]) [(2, .int (nI k)), (1, .int (kTires (σ 2 p))), (0, .ref o)] 168 [] := by
          intro d
          induction d with
          | zero =>
            intro k hk
            refine j_iload_n 168 cx 0 dX6_goes_168 rfl ?_
            refine j_aload_n 169 cx 2 dX6_goes_169 rfl ?_
            refine j_get 170 cx 0 0 (T := TX6) (v := .ref ((am 0))) (fun _ h => List.mem_cons_of_mem _ (List.mem_append_right _ (h))) (List.mem_of_getElem? (i := 2) rfl) (ci := 5) rfl (by decide) rfl rfl rfl dX6_goes_170 ?_
            refine j_iconst 173 cx 3 dX6_goes_173 (by decide) ?_
            refine j_iald 174 cx 1 3 rfl rfl (by omega) (by decide) dX6_goes_174 ?_
            refine j_top ((offF (holF (tireF σ)) k) 0 3) rfl ?_
            refine j_top (nI (szN σ)) ((ht_size σ k).trans hI.sz) ?_
            refine j_icmp_ge_T 175 cx 204 dX6_goes_175 (by decide) (nI_le (by omega) (by omega)) ?_
            refine j_aload_n 204 cx 2 dX6_goes_204 rfl ?_
            refine j_get 205 cx 0 0 (T := TX6) (v := .ref ((am 0))) (fun _ h => List.mem_cons_of_mem _ (List.mem_append_right _ (h))) (List.mem_of_getElem? (i := 2) rfl) (ci := 5) rfl (by decide) rfl rfl rfl dX6_goes_205 ?_
            refine j_iconst 208 cx 0 dX6_goes_208 (by decide) ?_
            refine j_dup2 209 cx dX6_goes_209 rfl rfl ?_
            refine j_iald 210 cx 1 0 rfl rfl (by omega) (by decide) dX6_goes_210 ?_
            refine j_top ((offF (holF (tireF σ)) k) 0 0) rfl ?_
            refine j_iconst 211 cx 1 dX6_goes_211 (by decide) ?_
            refine j_iadd 212 cx dX6_goes_212 ?_
            refine j_iast 213 cx 1 0 (wMO o am ik (nI p) tn tk be an va bd ++ [((am 0), .inl (gI G, 51, .inl (upd (mm (offF (holF (tireF σ)) k)) 0 (((offF (holF (tireF σ)) k) 0 0) + 1))))]) rfl rfl (by omega) (by decide) rfl dX6_goes_213 ?_
            refine j_ws (wMO o am ik (nI p) tn tk be an va bd ++ [((am 0), .inl (gI G, 51, .inl (mm (up2 (offF (holF (tireF σ)) k) 0 0 (((offF (holF (tireF σ)) k) 0 0) + 1)))))]) (congrArg (fun zf : Nat → Int32 => wMO o am ik (nI p) tn tk be an va bd ++ [((am 0), .inl (gI G, 51, .inl zf))]) (mm_usc _ _ (by omega))) ?_
            exact fin () _ _ _ dX6_goes_214 (congrArg (fun zn : Nu => wMO o am ik (nI p) tn tk be an va bd ++ [((am 0), .inl (gI G, 51, .inl (mm zn)))]) (by rw [show k = szN σ from by omega, dayF, ht_day])) trivial
          | succ d ih168 =>
            intro k hk
            refine j_iload_n 168 cx 0 dX6_goes_168 rfl ?_
            refine j_aload_n 169 cx 2 dX6_goes_169 rfl ?_
            refine j_get 170 cx 0 0 (T := TX6) (v := .ref ((am 0))) (fun _ h => List.mem_cons_of_mem _ (List.mem_append_right _ (h))) (List.mem_of_getElem? (i := 2) rfl) (ci := 5) rfl (by decide) rfl rfl rfl dX6_goes_170 ?_
            refine j_iconst 173 cx 3 dX6_goes_173 (by decide) ?_
            refine j_iald 174 cx 1 3 rfl rfl (by omega) (by decide) dX6_goes_174 ?_
            refine j_top ((offF (holF (tireF σ)) k) 0 3) rfl ?_
            refine j_top (nI (szN σ)) ((ht_size σ k).trans hI.sz) ?_
            refine j_icmp_ge_F 175 cx 204 dX6_goes_175 (by decide) (nI_ge (by omega) (by omega)) ?_
            refine j_aload_n 178 cx 2 dX6_goes_178 rfl ?_
            refine j_iload_n 179 cx 0 dX6_goes_179 rfl ?_
            refine j_iconst 180 cx 4 dX6_goes_180 (by decide) ?_
            refine j_aload_n 181 cx 2 dX6_goes_181 rfl ?_
            refine j_iload_n 182 cx 0 dX6_goes_182 rfl ?_
            refine j_iconst 183 cx 4 dX6_goes_183 (by decide) ?_
            refine j_callV_i 184 cx 2 [0, 1] [.int (nI k), .int 4] (fun _ => wMO o am ik (nI p) tn tk be an va bd ++ [((am 0), .inl (gI G, 51, .inl (mm (offF (holF (tireF σ)) k))))]) (c_X6_it (kl K) G o am ik (nI p) tn tk be an va bd (offF (holF (tireF σ)) k) k 4 (by omega) (by omega) ) gX6_goes_X6_it rfl rfl rfl ⟨rfl, by decide, by decide, rfl⟩ ⟨Nat.le_of_ble_eq_true rfl, Nat.le_of_ble_eq_true rfl⟩ ⟨Nat.zero_le _, Nat.zero_le _⟩ rfl (by decide) (ci := 5) 0 rfl rfl rfl rfl rfl (Nat.le_of_ble_eq_true rfl) dX6_goes_184 (fun _ => rfl) (fun zu24 zk24 => ?_)
            refine j_top ((offF (holF (tireF σ)) k) 6 k) rfl ?_
            refine j_iconst 187 cx 1 dX6_goes_187 (by decide) ?_
            refine j_isub 188 cx dX6_goes_188 ?_
            refine j_iconst 189 cx 0 dX6_goes_189 (by decide) ?_
            refine j_bipush 190 cx 99 dX6_goes_190 (by decide) ?_
            refine j_callS_i 192 cx 3 [] [.int (((offF (holF (tireF σ)) k) 6 k) - 1), .int 0, .int 99] (fun _ => wMO o am ik (nI p) tn tk be an va bd ++ [((am 0), .inl (gI G, 51, .inl (mm (offF (holF (tireF σ)) k))))]) (c_X6_held (kl K) G (((offF (holF (tireF σ)) k) 6 k) - 1) 0 99) gX6_goes_X6_held rfl rfl rfl ⟨by decide, by decide, rfl⟩ ⟨Nat.le_of_ble_eq_true rfl, Nat.le_of_ble_eq_true rfl⟩ ⟨Nat.zero_le _, Nat.zero_le _⟩ rfl (by decide) rfl rfl (Nat.le_of_ble_eq_true rfl) dX6_goes_192 (fun _ => rfl) (fun zu25 zk25 => ?_)
            refine j_top (hd (((offF (holF (tireF σ)) k) 6 k) - 1) 0 99) rfl ?_
            refine j_top (mx0 ((offF (holF (tireF σ)) k) 6 k - 1)) (hd_mx0 (of_1 (inv_offF (inv_holF (inv_tireF hI)) k) k)) ?_
            refine j_callV_v 195 cx 3 [0, 1] [.int (nI k), .int 4, .int (mx0 ((offF (holF (tireF σ)) k) 6 k - 1))] (fun _ => wMO o am ik (nI p) tn tk be an va bd ++ [((am 0), .inl (gI G, 51, .inl (mm (up2 (offF (holF (tireF σ)) k) 6 k (mx0 ((offF (holF (tireF σ)) k) 6 k - 1))))))]) (c_X6_put (kl K) G o am ik (nI p) tn tk be an va bd (offF (holF (tireF σ)) k) k 4 (mx0 ((offF (holF (tireF σ)) k) 6 k - 1)) (by omega) (by omega)) gX6_goes_X6_put rfl rfl rfl ⟨rfl, by decide, by decide, rfl⟩ ⟨Nat.le_of_ble_eq_true rfl, Nat.le_of_ble_eq_true rfl⟩ ⟨Nat.zero_le _, Nat.zero_le _⟩ rfl (by decide) (ci := 5) 0 rfl rfl rfl rfl rfl (Nat.le_of_ble_eq_true rfl) dX6_goes_195 (fun _ => rfl) (fun zu26 zk26 => ?_)
            refine j_iinc 198 cx [(2, .int (nI (k + 1))), (1, .int (kTires (σ 2 p))), (0, .ref o)] 0 (nI (k + 1)) dX6_goes_198 rfl (iinc1 k) (by decide) rfl ?_
            refine j_goto 201 cx 168 dX6_goes_201 (by decide) ?_
            have h9 := ih168 (k + 1) (by omega)
            exact h9
        exact L168 (szN σ) 0 (by omega)
      · skip
        refine j_iconst 153 cx 4 dX6_goes_153 (by decide) ?_
        refine j_goto 154 cx 158 dX6_goes_154 (by decide) ?_
        refine j_isub 158 cx dX6_goes_158 ?_
        refine j_iconst 159 cx 0 dX6_goes_159 (by decide) ?_
        refine j_bipush 160 cx 99 dX6_goes_160 (by decide) ?_
        refine j_callS_i 162 cx 3 [] [.int (((tireF σ) 0 1) - 4), .int 0, .int 99] (fun _ => wMO o am ik (nI p) tn tk be an va bd ++ [((am 0), .inl (gI G, 51, .inl (mm (tireF σ))))]) (c_X6_held (kl K) G (((tireF σ) 0 1) - 4) 0 99) gX6_goes_X6_held rfl rfl rfl ⟨by decide, by decide, rfl⟩ ⟨Nat.le_of_ble_eq_true rfl, Nat.le_of_ble_eq_true rfl⟩ ⟨Nat.zero_le _, Nat.zero_le _⟩ rfl (by decide) rfl rfl (Nat.le_of_ble_eq_true rfl) dX6_goes_162 (fun _ => rfl) (fun zu27 zk27 => ?_)
        refine j_top (hd (((tireF σ) 0 1) - 4) 0 99) rfl ?_
        refine j_top (mx0 ((tireF σ) 0 1 - 4)) (hd_mx0 (wy_4 (inv_tireF hI))) ?_
        refine j_iast 165 cx 1 1 (wMO o am ik (nI p) tn tk be an va bd ++ [((am 0), .inl (gI G, 51, .inl (upd (mm (tireF σ)) 1 (mx0 ((tireF σ) 0 1 - 4)))))]) rfl rfl (by omega) (by decide) rfl dX6_goes_165 ?_
        refine j_ws (wMO o am ik (nI p) tn tk be an va bd ++ [((am 0), .inl (gI G, 51, .inl (mm (up2 (tireF σ) 0 1 (mx0 ((tireF σ) 0 1 - 4))))))]) (congrArg (fun zf : Nat → Int32 => wMO o am ik (nI p) tn tk be an va bd ++ [((am 0), .inl (gI G, 51, .inl zf))]) (mm_usc _ _ (by omega))) ?_
        refine j_ws (wMO o am ik (nI p) tn tk be an va bd ++ [((am 0), .inl (gI G, 51, .inl (mm (holF (tireF σ)))))]) (congrArg (fun zn : Nu => wMO o am ik (nI p) tn tk be an va bd ++ [((am 0), .inl (gI G, 51, .inl (mm zn)))]) (holF_t zc4).symm) ?_
        refine j_iconst 166 cx 0 dX6_goes_166 (by decide) ?_
        refine j_istore_n 167 cx [(2, .int 0), (1, .int (kTires (σ 2 p))), (0, .ref o)] dX6_goes_167 (by decide) rfl ?_
        have L168 : ∀ d : Nat, ∀ (k : Nat), (k + d = szN σ) → JJ G K 0 0 (wMO o am ik (nI p) tn tk be an va bd ++ [((am 0), .inl (gI G, 51, .inl (mm (offF (holF (tireF σ)) k))))]) [(2, .int (nI k)), (1, .int (kTires (σ 2 p))), (0, .ref o)] 168 [] := by
          intro d
          induction d with
          | zero =>
            intro k hk
            refine j_iload_n 168 cx 0 dX6_goes_168 rfl ?_
            refine j_aload_n 169 cx 2 dX6_goes_169 rfl ?_
            refine j_get 170 cx 0 0 (T := TX6) (v := .ref ((am 0))) (fun _ h => List.mem_cons_of_mem _ (List.mem_append_right _ (h))) (List.mem_of_getElem? (i := 2) rfl) (ci := 5) rfl (by decide) rfl rfl rfl dX6_goes_170 ?_
            refine j_iconst 173 cx 3 dX6_goes_173 (by decide) ?_
            refine j_iald 174 cx 1 3 rfl rfl (by omega) (by decide) dX6_goes_174 ?_
            refine j_top ((offF (holF (tireF σ)) k) 0 3) rfl ?_
            refine j_top (nI (szN σ)) ((ht_size σ k).trans hI.sz) ?_
            refine j_icmp_ge_T 175 cx 204 dX6_goes_175 (by decide) (nI_le (by omega) (by omega)) ?_
            refine j_aload_n 204 cx 2 dX6_goes_204 rfl ?_
            refine j_get 205 cx 0 0 (T := TX6) (v := .ref ((am 0))) (fun _ h => List.mem_cons_of_mem _ (List.mem_append_right _ (h))) (List.mem_of_getElem? (i := 2) rfl) (ci := 5) rfl (by decide) rfl rfl rfl dX6_goes_205 ?_
            refine j_iconst 208 cx 0 dX6_goes_208 (by decide) ?_
            refine j_dup2 209 cx dX6_goes_209 rfl rfl ?_
            refine j_iald 210 cx 1 0 rfl rfl (by omega) (by decide) dX6_goes_210 ?_
            refine j_top ((offF (holF (tireF σ)) k) 0 0) rfl ?_
            refine j_iconst 211 cx 1 dX6_goes_211 (by decide) ?_
            refine j_iadd 212 cx dX6_goes_212 ?_
            refine j_iast 213 cx 1 0 (wMO o am ik (nI p) tn tk be an va bd ++ [((am 0), .inl (gI G, 51, .inl (upd (mm (offF (holF (tireF σ)) k)) 0 (((offF (holF (tireF σ)) k) 0 0) + 1))))]) rfl rfl (by omega) (by decide) rfl dX6_goes_213 ?_
            refine j_ws (wMO o am ik (nI p) tn tk be an va bd ++ [((am 0), .inl (gI G, 51, .inl (mm (up2 (offF (holF (tireF σ)) k) 0 0 (((offF (holF (tireF σ)) k) 0 0) + 1)))))]) (congrArg (fun zf : Nat → Int32 => wMO o am ik (nI p) tn tk be an va bd ++ [((am 0), .inl (gI G, 51, .inl zf))]) (mm_usc _ _ (by omega))) ?_
            exact fin () _ _ _ dX6_goes_214 (congrArg (fun zn : Nu => wMO o am ik (nI p) tn tk be an va bd ++ [((am 0), .inl (gI G, 51, .inl (mm zn)))]) (by rw [show k = szN σ from by omega, dayF, ht_day])) trivial
          | succ d ih168 =>
            intro k hk
            refine j_iload_n 168 cx 0 dX6_goes_168 rfl ?_
            refine j_aload_n 169 cx 2 dX6_goes_169 rfl ?_
            refine j_get 170 cx 0 0 (T := TX6) (v := .ref ((am 0))) (fun _ h => List.mem_cons_of_mem _ (List.mem_append_right _ (h))) (List.mem_of_getElem? (i := 2) rfl) (ci := 5) rfl (by decide) rfl rfl rfl dX6_goes_170 ?_
            refine j_iconst 173 cx 3 dX6_goes_173 (by decide) ?_
            refine j_iald 174 cx 1 3 rfl rfl (by omega) (by decide) dX6_goes_174 ?_
            refine j_top ((offF (holF (tireF σ)) k) 0 3) rfl ?_
            refine j_top (nI (szN σ)) ((ht_size σ k).trans hI.sz) ?_
            refine j_icmp_ge_F 175 cx 204 dX6_goes_175 (by decide) (nI_ge (by omega) (by omega)) ?_
            refine j_aload_n 178 cx 2 dX6_goes_178 rfl ?_
            refine j_iload_n 179 cx 0 dX6_goes_179 rfl ?_
            refine j_iconst 180 cx 4 dX6_goes_180 (by decide) ?_
            refine j_aload_n 181 cx 2 dX6_goes_181 rfl ?_
            refine j_iload_n 182 cx 0 dX6_goes_182 rfl ?_
            refine j_iconst 183 cx 4 dX6_goes_183 (by decide) ?_
            refine j_callV_i 184 cx 2 [0, 1] [.int (nI k), .int 4] (fun _ => wMO o am ik (nI p) tn tk be an va bd ++ [((am 0), .inl (gI G, 51, .inl (mm (offF (holF (tireF σ)) k))))]) (c_X6_it (kl K) G o am ik (nI p) tn tk be an va bd (offF (holF (tireF σ)) k) k 4 (by omega) (by omega) ) gX6_goes_X6_it rfl rfl rfl ⟨rfl, by decide, by decide, rfl⟩ ⟨Nat.le_of_ble_eq_true rfl, Nat.le_of_ble_eq_true rfl⟩ ⟨Nat.zero_le _, Nat.zero_le _⟩ rfl (by decide) (ci := 5) 0 rfl rfl rfl rfl rfl (Nat.le_of_ble_eq_true rfl) dX6_goes_184 (fun _ => rfl) (fun zu28 zk28 => ?_)
            refine j_top ((offF (holF (tireF σ)) k) 6 k) rfl ?_
            refine j_iconst 187 cx 1 dX6_goes_187 (by decide) ?_
            refine j_isub 188 cx dX6_goes_188 ?_
            refine j_iconst 189 cx 0 dX6_goes_189 (by decide) ?_
            refine j_bipush 190 cx 99 dX6_goes_190 (by decide) ?_
            refine j_callS_i 192 cx 3 [] [.int (((offF (holF (tireF σ)) k) 6 k) - 1), .int 0, .int 99] (fun _ => wMO o am ik (nI p) tn tk be an va bd ++ [((am 0), .inl (gI G, 51, .inl (mm (offF (holF (tireF σ)) k))))]) (c_X6_held (kl K) G (((offF (holF (tireF σ)) k) 6 k) - 1) 0 99) gX6_goes_X6_held rfl rfl rfl ⟨by decide, by decide, rfl⟩ ⟨Nat.le_of_ble_eq_true rfl, Nat.le_of_ble_eq_true rfl⟩ ⟨Nat.zero_le _, Nat.zero_le _⟩ rfl (by decide) rfl rfl (Nat.le_of_ble_eq_true rfl) dX6_goes_192 (fun _ => rfl) (fun zu29 zk29 => ?_)
            refine j_top (hd (((offF (holF (tireF σ)) k) 6 k) - 1) 0 99) rfl ?_
            refine j_top (mx0 ((offF (holF (tireF σ)) k) 6 k - 1)) (hd_mx0 (of_1 (inv_offF (inv_holF (inv_tireF hI)) k) k)) ?_
            refine j_callV_v 195 cx 3 [0, 1] [.int (nI k), .int 4, .int (mx0 ((offF (holF (tireF σ)) k) 6 k - 1))] (fun _ => wMO o am ik (nI p) tn tk be an va bd ++ [((am 0), .inl (gI G, 51, .inl (mm (up2 (offF (holF (tireF σ)) k) 6 k (mx0 ((offF (holF (tireF σ)) k) 6 k - 1))))))]) (c_X6_put (kl K) G o am ik (nI p) tn tk be an va bd (offF (holF (tireF σ)) k) k 4 (mx0 ((offF (holF (tireF σ)) k) 6 k - 1)) (by omega) (by omega)) gX6_goes_X6_put rfl rfl rfl ⟨rfl, by decide, by decide, rfl⟩ ⟨Nat.le_of_ble_eq_true rfl, Nat.le_of_ble_eq_true rfl⟩ ⟨Nat.zero_le _, Nat.zero_le _⟩ rfl (by decide) (ci := 5) 0 rfl rfl rfl rfl rfl (Nat.le_of_ble_eq_true rfl) dX6_goes_195 (fun _ => rfl) (fun zu30 zk30 => ?_)
            refine j_iinc 198 cx [(2, .int (nI (k + 1))), (1, .int (kTires (σ 2 p))), (0, .ref o)] 0 (nI (k + 1)) dX6_goes_198 rfl (iinc1 k) (by decide) rfl ?_
            refine j_goto 201 cx 168 dX6_goes_201 (by decide) ?_
            have h9 := ih168 (k + 1) (by omega)
            exact h9
        exact L168 (szN σ) 0 (by omega)
    · skip
      refine j_iconst 101 cx 1 dX6_goes_101 (by decide) ?_
      refine j_goto 102 cx 106 dX6_goes_102 (by decide) ?_
      refine j_iadd 106 cx dX6_goes_106 ?_
      refine j_iconst 107 cx 0 dX6_goes_107 (by decide) ?_
      refine j_sipush 108 cx 9999 dX6_goes_108 (by decide) ?_
      refine j_callS_i 111 cx 3 [] [.int ((σ 0 2) + 1), .int 0, .int 9999] (fun _ => wMO o am ik (nI p) tn tk be an va bd ++ [((am 0), .inl (gI G, 51, .inl (mm (up2 σ 4 p (mnI 9999 (σ 4 p + giveF σ p))))))]) (c_X6_held (kl K) G ((σ 0 2) + 1) 0 9999) gX6_goes_X6_held rfl rfl rfl ⟨by decide, by decide, rfl⟩ ⟨Nat.le_of_ble_eq_true rfl, Nat.le_of_ble_eq_true rfl⟩ ⟨Nat.zero_le _, Nat.zero_le _⟩ rfl (by decide) rfl rfl (Nat.le_of_ble_eq_true rfl) dX6_goes_111 (fun _ => rfl) (fun zu31 zk31 => ?_)
      refine j_top (hd ((σ 0 2) + 1) 0 9999) rfl ?_
      refine j_top (mnI 9999 (σ 0 2 + 1)) (hd_mn (late_1 hI)) ?_
      refine j_iast 114 cx 1 2 (wMO o am ik (nI p) tn tk be an va bd ++ [((am 0), .inl (gI G, 51, .inl (upd (mm (up2 σ 4 p (mnI 9999 (σ 4 p + giveF σ p)))) 2 (mnI 9999 (σ 0 2 + 1)))))]) rfl rfl (by omega) (by decide) rfl dX6_goes_114 ?_
      refine j_ws (wMO o am ik (nI p) tn tk be an va bd ++ [((am 0), .inl (gI G, 51, .inl (mm (up2 (up2 σ 4 p (mnI 9999 (σ 4 p + giveF σ p))) 0 2 (mnI 9999 (σ 0 2 + 1))))))]) (congrArg (fun zf : Nat → Int32 => wMO o am ik (nI p) tn tk be an va bd ++ [((am 0), .inl (gI G, 51, .inl zf))]) (mm_usc _ _ (by omega))) ?_
      refine j_aload_n 115 cx 1 dX6_goes_115 rfl ?_
      refine j_get 116 cx 0 0 (T := TX6) (v := .ref ((am 0))) (fun _ h => List.mem_cons_of_mem _ (List.mem_append_right _ (h))) (List.mem_of_getElem? (i := 2) rfl) (ci := 5) rfl (by decide) rfl rfl rfl dX6_goes_116 ?_
      refine j_iconst 119 cx 1 dX6_goes_119 (by decide) ?_
      refine j_aload_n 120 cx 1 dX6_goes_120 rfl ?_
      refine j_get 121 cx 0 0 (T := TX6) (v := .ref ((am 0))) (fun _ h => List.mem_cons_of_mem _ (List.mem_append_right _ (h))) (List.mem_of_getElem? (i := 2) rfl) (ci := 5) rfl (by decide) rfl rfl rfl dX6_goes_121 ?_
      refine j_iconst 124 cx 1 dX6_goes_124 (by decide) ?_
      refine j_iald 125 cx 1 1 rfl rfl (by omega) (by decide) dX6_goes_125 ?_
      refine j_top (σ 0 1) rfl ?_
      refine j_iload_n 126 cx 0 dX6_goes_126 rfl ?_
      refine j_iadd 127 cx dX6_goes_127 ?_
      refine j_iconst 128 cx 0 dX6_goes_128 (by decide) ?_
      refine j_bipush 129 cx 99 dX6_goes_129 (by decide) ?_
      refine j_callS_i 131 cx 3 [] [.int ((σ 0 1) + (kTires (σ 2 p))), .int 0, .int 99] (fun _ => wMO o am ik (nI p) tn tk be an va bd ++ [((am 0), .inl (gI G, 51, .inl (mm (up2 (up2 σ 4 p (mnI 9999 (σ 4 p + giveF σ p))) 0 2 (mnI 9999 (σ 0 2 + 1))))))]) (c_X6_held (kl K) G ((σ 0 1) + (kTires (σ 2 p))) 0 99) gX6_goes_X6_held rfl rfl rfl ⟨by decide, by decide, rfl⟩ ⟨Nat.le_of_ble_eq_true rfl, Nat.le_of_ble_eq_true rfl⟩ ⟨Nat.zero_le _, Nat.zero_le _⟩ rfl (by decide) rfl rfl (Nat.le_of_ble_eq_true rfl) dX6_goes_131 (fun _ => rfl) (fun zu32 zk32 => ?_)
      refine j_top (hd ((σ 0 1) + (kTires (σ 2 p))) 0 99) rfl ?_
      refine j_top (mx0 (mnI 99 (σ 0 1 + kTires (σ 2 p)))) (hd_mx _) ?_
      refine j_iast 134 cx 1 1 (wMO o am ik (nI p) tn tk be an va bd ++ [((am 0), .inl (gI G, 51, .inl (upd (mm (up2 (up2 σ 4 p (mnI 9999 (σ 4 p + giveF σ p))) 0 2 (mnI 9999 (σ 0 2 + 1)))) 1 (mx0 (mnI 99 (σ 0 1 + kTires (σ 2 p)))))))]) rfl rfl (by omega) (by decide) rfl dX6_goes_134 ?_
      refine j_ws (wMO o am ik (nI p) tn tk be an va bd ++ [((am 0), .inl (gI G, 51, .inl (mm (up2 (up2 (up2 σ 4 p (mnI 9999 (σ 4 p + giveF σ p))) 0 2 (mnI 9999 (σ 0 2 + 1))) 0 1 (mx0 (mnI 99 (σ 0 1 + kTires (σ 2 p))))))))]) (congrArg (fun zf : Nat → Int32 => wMO o am ik (nI p) tn tk be an va bd ++ [((am 0), .inl (gI G, 51, .inl zf))]) (mm_usc _ _ (by omega))) ?_
      refine j_ws (wMO o am ik (nI p) tn tk be an va bd ++ [((am 0), .inl (gI G, 51, .inl (mm (tireF σ))))]) (congrArg (fun zn : Nu => wMO o am ik (nI p) tn tk be an va bd ++ [((am 0), .inl (gI G, 51, .inl (mm zn)))]) ((goes_late zc1 (Int32.not_le.mp zc3)).trans (tireF_some hL).symm)) ?_
      refine j_aload_n 135 cx 1 dX6_goes_135 rfl ?_
      refine j_get 136 cx 0 0 (T := TX6) (v := .ref ((am 0))) (fun _ h => List.mem_cons_of_mem _ (List.mem_append_right _ (h))) (List.mem_of_getElem? (i := 2) rfl) (ci := 5) rfl (by decide) rfl rfl rfl dX6_goes_136 ?_
      refine j_iconst 139 cx 1 dX6_goes_139 (by decide) ?_
      refine j_aload_n 140 cx 1 dX6_goes_140 rfl ?_
      refine j_get 141 cx 0 0 (T := TX6) (v := .ref ((am 0))) (fun _ h => List.mem_cons_of_mem _ (List.mem_append_right _ (h))) (List.mem_of_getElem? (i := 2) rfl) (ci := 5) rfl (by decide) rfl rfl rfl dX6_goes_141 ?_
      refine j_iconst 144 cx 1 dX6_goes_144 (by decide) ?_
      refine j_iald 145 cx 1 1 rfl rfl (by omega) (by decide) dX6_goes_145 ?_
      refine j_top ((tireF σ) 0 1) rfl ?_
      refine j_aload_n 146 cx 1 dX6_goes_146 rfl ?_
      refine j_callV_i 147 cx 0 [0, 1] [] (fun _ => wMO o am ik (nI p) tn tk be an va bd ++ [((am 0), .inl (gI G, 51, .inl (mm (tireF σ))))]) (c_X6_isHoliday (kl K) G o am ik (nI p) tn tk be an va bd (tireF σ)  (inv_tireF hI).dy (inv_tireF hI).dyM ) gX6_goes_X6_isHoliday rfl rfl rfl ⟨rfl, by decide, by decide, rfl⟩ ⟨Nat.le_of_ble_eq_true rfl, Nat.le_of_ble_eq_true rfl⟩ ⟨Nat.zero_le _, Nat.zero_le _⟩ rfl (by decide) (ci := 5) 0 rfl rfl rfl rfl rfl (Nat.le_of_ble_eq_true rfl) dX6_goes_147 (fun _ => rfl) (fun zu33 zk33 => ?_)
      refine j_top (bI (hol (tireF σ))) rfl ?_
      refine j_ifB_eq 150 cx 157 dX6_goes_150 (by decide) (fun zc5 => ?_) (fun zc5 => ?_)
      · skip
        refine j_iconst 157 cx 0 dX6_goes_157 (by decide) ?_
        refine j_isub 158 cx dX6_goes_158 ?_
        refine j_top ((tireF σ) 0 1) (i_sub0 _) ?_
        refine j_iconst 159 cx 0 dX6_goes_159 (by decide) ?_
        refine j_bipush 160 cx 99 dX6_goes_160 (by decide) ?_
        refine j_callS_i 162 cx 3 [] [.int ((tireF σ) 0 1), .int 0, .int 99] (fun _ => wMO o am ik (nI p) tn tk be an va bd ++ [((am 0), .inl (gI G, 51, .inl (mm (tireF σ))))]) (c_X6_held (kl K) G ((tireF σ) 0 1) 0 99) gX6_goes_X6_held rfl rfl rfl ⟨by decide, by decide, rfl⟩ ⟨Nat.le_of_ble_eq_true rfl, Nat.le_of_ble_eq_true rfl⟩ ⟨Nat.zero_le _, Nat.zero_le _⟩ rfl (by decide) rfl rfl (Nat.le_of_ble_eq_true rfl) dX6_goes_162 (fun _ => rfl) (fun zu34 zk34 => ?_)
        refine j_top (hd ((tireF σ) 0 1) 0 99) rfl ?_
        refine j_top ((tireF σ) 0 1) (hd_99 (inv_tireF hI).2.2.1) ?_
        refine j_iast 165 cx 1 1 (wMO o am ik (nI p) tn tk be an va bd ++ [((am 0), .inl (gI G, 51, .inl (upd (mm (tireF σ)) 1 ((tireF σ) 0 1))))]) rfl rfl (by omega) (by decide) rfl dX6_goes_165 ?_
        refine j_ws (wMO o am ik (nI p) tn tk be an va bd ++ [((am 0), .inl (gI G, 51, .inl (mm (up2 (tireF σ) 0 1 ((tireF σ) 0 1)))))]) (congrArg (fun zf : Nat → Int32 => wMO o am ik (nI p) tn tk be an va bd ++ [((am 0), .inl (gI G, 51, .inl zf))]) (mm_usc _ _ (by omega))) ?_
        refine j_ws (wMO o am ik (nI p) tn tk be an va bd ++ [((am 0), .inl (gI G, 51, .inl (mm (holF (tireF σ)))))]) (congrArg (fun zn : Nu => wMO o am ik (nI p) tn tk be an va bd ++ [((am 0), .inl (gI G, 51, .inl (mm zn)))]) ((up2_same (tireF σ) 0 1).trans (holF_f zc5).symm)) ?_
        refine j_iconst 166 cx 0 dX6_goes_166 (by decide) ?_
        refine j_istore_n 167 cx [(2, .int 0), (1, .int (kTires (σ 2 p))), (0, .ref o)] dX6_goes_167 (by decide) rfl ?_
        have L168 : ∀ d : Nat, ∀ (k : Nat), (k + d = szN σ) → JJ G K 0 0 (wMO o am ik (nI p) tn tk be an va bd ++ [((am 0), .inl (gI G, 51, .inl (mm (offF (holF (tireF σ)) k))))]) [(2, .int (nI k)), (1, .int (kTires (σ 2 p))), (0, .ref o)] 168 [] := by
          intro d
          induction d with
          | zero =>
            intro k hk
            refine j_iload_n 168 cx 0 dX6_goes_168 rfl ?_
            refine j_aload_n 169 cx 2 dX6_goes_169 rfl ?_
            refine j_get 170 cx 0 0 (T := TX6) (v := .ref ((am 0))) (fun _ h => List.mem_cons_of_mem _ (List.mem_append_right _ (h))) (List.mem_of_getElem? (i := 2) rfl) (ci := 5) rfl (by decide) rfl rfl rfl dX6_goes_170 ?_
            refine j_iconst 173 cx 3 dX6_goes_173 (by decide) ?_
            refine j_iald 174 cx 1 3 rfl rfl (by omega) (by decide) dX6_goes_174 ?_
            refine j_top ((offF (holF (tireF σ)) k) 0 3) rfl ?_
            refine j_top (nI (szN σ)) ((ht_size σ k).trans hI.sz) ?_
            refine j_icmp_ge_T 175 cx 204 dX6_goes_175 (by decide) (nI_le (by omega) (by omega)) ?_
            refine j_aload_n 204 cx 2 dX6_goes_204 rfl ?_
            refine j_get 205 cx 0 0 (T := TX6) (v := .ref ((am 0))) (fun _ h => List.mem_cons_of_mem _ (List.mem_append_right _ (h))) (List.mem_of_getElem? (i := 2) rfl) (ci := 5) rfl (by decide) rfl rfl rfl dX6_goes_205 ?_
            refine j_iconst 208 cx 0 dX6_goes_208 (by decide) ?_
            refine j_dup2 209 cx dX6_goes_209 rfl rfl ?_
            refine j_iald 210 cx 1 0 rfl rfl (by omega) (by decide) dX6_goes_210 ?_
            refine j_top ((offF (holF (tireF σ)) k) 0 0) rfl ?_
            refine j_iconst 211 cx 1 dX6_goes_211 (by decide) ?_
            refine j_iadd 212 cx dX6_goes_212 ?_
            refine j_iast 213 cx 1 0 (wMO o am ik (nI p) tn tk be an va bd ++ [((am 0), .inl (gI G, 51, .inl (upd (mm (offF (holF (tireF σ)) k)) 0 (((offF (holF (tireF σ)) k) 0 0) + 1))))]) rfl rfl (by omega) (by decide) rfl dX6_goes_213 ?_
            refine j_ws (wMO o am ik (nI p) tn tk be an va bd ++ [((am 0), .inl (gI G, 51, .inl (mm (up2 (offF (holF (tireF σ)) k) 0 0 (((offF (holF (tireF σ)) k) 0 0) + 1)))))]) (congrArg (fun zf : Nat → Int32 => wMO o am ik (nI p) tn tk be an va bd ++ [((am 0), .inl (gI G, 51, .inl zf))]) (mm_usc _ _ (by omega))) ?_
            exact fin () _ _ _ dX6_goes_214 (congrArg (fun zn : Nu => wMO o am ik (nI p) tn tk be an va bd ++ [((am 0), .inl (gI G, 51, .inl (mm zn)))]) (by rw [show k = szN σ from by omega, dayF, ht_day])) trivial
          | succ d ih168 =>
            intro k hk
            refine j_iload_n 168 cx 0 dX6_goes_168 rfl ?_
            refine j_aload_n 169 cx 2 dX6_goes_169 rfl ?_
            refine j_get 170 cx 0 0 (T := TX6) (v := .ref ((am 0))) (fun _ h => List.mem_cons_of_mem _ (List.mem_append_right _ (h))) (List.mem_of_getElem? (i := 2) rfl) (ci := 5) rfl (by decide) rfl rfl rfl dX6_goes_170 ?_
            refine j_iconst 173 cx 3 dX6_goes_173 (by decide) ?_
            refine j_iald 174 cx 1 3 rfl rfl (by omega) (by decide) dX6_goes_174 ?_
            refine j_top ((offF (holF (tireF σ)) k) 0 3) rfl ?_
            refine j_top (nI (szN σ)) ((ht_size σ k).trans hI.sz) ?_
            refine j_icmp_ge_F 175 cx 204 dX6_goes_175 (by decide) (nI_ge (by omega) (by omega)) ?_
            refine j_aload_n 178 cx 2 dX6_goes_178 rfl ?_
            refine j_iload_n 179 cx 0 dX6_goes_179 rfl ?_
            refine j_iconst 180 cx 4 dX6_goes_180 (by decide) ?_
            refine j_aload_n 181 cx 2 dX6_goes_181 rfl ?_
            refine j_iload_n 182 cx 0 dX6_goes_182 rfl ?_
            refine j_iconst 183 cx 4 dX6_goes_183 (by decide) ?_
            refine j_callV_i 184 cx 2 [0, 1] [.int (nI k), .int 4] (fun _ => wMO o am ik (nI p) tn tk be an va bd ++ [((am 0), .inl (gI G, 51, .inl (mm (offF (holF (tireF σ)) k))))]) (c_X6_it (kl K) G o am ik (nI p) tn tk be an va bd (offF (holF (tireF σ)) k) k 4 (by omega) (by omega) ) gX6_goes_X6_it rfl rfl rfl ⟨rfl, by decide, by decide, rfl⟩ ⟨Nat.le_of_ble_eq_true rfl, Nat.le_of_ble_eq_true rfl⟩ ⟨Nat.zero_le _, Nat.zero_le _⟩ rfl (by decide) (ci := 5) 0 rfl rfl rfl rfl rfl (Nat.le_of_ble_eq_true rfl) dX6_goes_184 (fun _ => rfl) (fun zu35 zk35 => ?_)
            refine j_top ((offF (holF (tireF σ)) k) 6 k) rfl ?_
            refine j_iconst 187 cx 1 dX6_goes_187 (by decide) ?_
            refine j_isub 188 cx dX6_goes_188 ?_
            refine j_iconst 189 cx 0 dX6_goes_189 (by decide) ?_
            refine j_bipush 190 cx 99 dX6_goes_190 (by decide) ?_
            refine j_callS_i 192 cx 3 [] [.int (((offF (holF (tireF σ)) k) 6 k) - 1), .int 0, .int 99] (fun _ => wMO o am ik (nI p) tn tk be an va bd ++ [((am 0), .inl (gI G, 51, .inl (mm (offF (holF (tireF σ)) k))))]) (c_X6_held (kl K) G (((offF (holF (tireF σ)) k) 6 k) - 1) 0 99) gX6_goes_X6_held rfl rfl rfl ⟨by decide, by decide, rfl⟩ ⟨Nat.le_of_ble_eq_true rfl, Nat.le_of_ble_eq_true rfl⟩ ⟨Nat.zero_le _, Nat.zero_le _⟩ rfl (by decide) rfl rfl (Nat.le_of_ble_eq_true rfl) dX6_goes_192 (fun _ => rfl) (fun zu36 zk36 => ?_)
            refine j_top (hd (((offF (holF (tireF σ)) k) 6 k) - 1) 0 99) rfl ?_
            refine j_top (mx0 ((offF (holF (tireF σ)) k) 6 k - 1)) (hd_mx0 (of_1 (inv_offF (inv_holF (inv_tireF hI)) k) k)) ?_
            refine j_callV_v 195 cx 3 [0, 1] [.int (nI k), .int 4, .int (mx0 ((offF (holF (tireF σ)) k) 6 k - 1))] (fun _ => wMO o am ik (nI p) tn tk be an va bd ++ [((am 0), .inl (gI G, 51, .inl (mm (up2 (offF (holF (tireF σ)) k) 6 k (mx0 ((offF (holF (tireF σ)) k) 6 k - 1))))))]) (c_X6_put (kl K) G o am ik (nI p) tn tk be an va bd (offF (holF (tireF σ)) k) k 4 (mx0 ((offF (holF (tireF σ)) k) 6 k - 1)) (by omega) (by omega)) gX6_goes_X6_put rfl rfl rfl ⟨rfl, by decide, by decide, rfl⟩ ⟨Nat.le_of_ble_eq_true rfl, Nat.le_of_ble_eq_true rfl⟩ ⟨Nat.zero_le _, Nat.zero_le _⟩ rfl (by decide) (ci := 5) 0 rfl rfl rfl rfl rfl (Nat.le_of_ble_eq_true rfl) dX6_goes_195 (fun _ => rfl) (fun zu37 zk37 => ?_)
            refine j_iinc 198 cx [(2, .int (nI (k + 1))), (1, .int (kTires (σ 2 p))), (0, .ref o)] 0 (nI (k + 1)) dX6_goes_198 rfl (iinc1 k) (by decide) rfl ?_
            refine j_goto 201 cx 168 dX6_goes_201 (by decide) ?_
            have h9 := ih168 (k + 1) (by omega)
            exact h9
        exact L168 (szN σ) 0 (by omega)
      · skip
        refine j_iconst 153 cx 4 dX6_goes_153 (by decide) ?_
        refine j_goto 154 cx 158 dX6_goes_154 (by decide) ?_
        refine j_isub 158 cx dX6_goes_158 ?_
        refine j_iconst 159 cx 0 dX6_goes_159 (by decide) ?_
        refine j_bipush 160 cx 99 dX6_goes_160 (by decide) ?_
        refine j_callS_i 162 cx 3 [] [.int (((tireF σ) 0 1) - 4), .int 0, .int 99] (fun _ => wMO o am ik (nI p) tn tk be an va bd ++ [((am 0), .inl (gI G, 51, .inl (mm (tireF σ))))]) (c_X6_held (kl K) G (((tireF σ) 0 1) - 4) 0 99) gX6_goes_X6_held rfl rfl rfl ⟨by decide, by decide, rfl⟩ ⟨Nat.le_of_ble_eq_true rfl, Nat.le_of_ble_eq_true rfl⟩ ⟨Nat.zero_le _, Nat.zero_le _⟩ rfl (by decide) rfl rfl (Nat.le_of_ble_eq_true rfl) dX6_goes_162 (fun _ => rfl) (fun zu38 zk38 => ?_)
        refine j_top (hd (((tireF σ) 0 1) - 4) 0 99) rfl ?_
        refine j_top (mx0 ((tireF σ) 0 1 - 4)) (hd_mx0 (wy_4 (inv_tireF hI))) ?_
        refine j_iast 165 cx 1 1 (wMO o am ik (nI p) tn tk be an va bd ++ [((am 0), .inl (gI G, 51, .inl (upd (mm (tireF σ)) 1 (mx0 ((tireF σ) 0 1 - 4)))))]) rfl rfl (by omega) (by decide) rfl dX6_goes_165 ?_
        refine j_ws (wMO o am ik (nI p) tn tk be an va bd ++ [((am 0), .inl (gI G, 51, .inl (mm (up2 (tireF σ) 0 1 (mx0 ((tireF σ) 0 1 - 4))))))]) (congrArg (fun zf : Nat → Int32 => wMO o am ik (nI p) tn tk be an va bd ++ [((am 0), .inl (gI G, 51, .inl zf))]) (mm_usc _ _ (by omega))) ?_
        refine j_ws (wMO o am ik (nI p) tn tk be an va bd ++ [((am 0), .inl (gI G, 51, .inl (mm (holF (tireF σ)))))]) (congrArg (fun zn : Nu => wMO o am ik (nI p) tn tk be an va bd ++ [((am 0), .inl (gI G, 51, .inl (mm zn)))]) (holF_t zc5).symm) ?_
        refine j_iconst 166 cx 0 dX6_goes_166 (by decide) ?_
        refine j_istore_n 167 cx [(2, .int 0), (1, .int (kTires (σ 2 p))), (0, .ref o)] dX6_goes_167 (by decide) rfl ?_
        have L168 : ∀ d : Nat, ∀ (k : Nat), (k + d = szN σ) → JJ G K 0 0 (wMO o am ik (nI p) tn tk be an va bd ++ [((am 0), .inl (gI G, 51, .inl (mm (offF (holF (tireF σ)) k))))]) [(2, .int (nI k)), (1, .int (kTires (σ 2 p))), (0, .ref o)] 168 [] := by
          intro d
          induction d with
          | zero =>
            intro k hk
            refine j_iload_n 168 cx 0 dX6_goes_168 rfl ?_
            refine j_aload_n 169 cx 2 dX6_goes_169 rfl ?_
            refine j_get 170 cx 0 0 (T := TX6) (v := .ref ((am 0))) (fun _ h => List.mem_cons_of_mem _ (List.mem_append_right _ (h))) (List.mem_of_getElem? (i := 2) rfl) (ci := 5) rfl (by decide) rfl rfl rfl dX6_goes_170 ?_
            refine j_iconst 173 cx 3 dX6_goes_173 (by decide) ?_
            refine j_iald 174 cx 1 3 rfl rfl (by omega) (by decide) dX6_goes_174 ?_
            refine j_top ((offF (holF (tireF σ)) k) 0 3) rfl ?_
            refine j_top (nI (szN σ)) ((ht_size σ k).trans hI.sz) ?_
            refine j_icmp_ge_T 175 cx 204 dX6_goes_175 (by decide) (nI_le (by omega) (by omega)) ?_
            refine j_aload_n 204 cx 2 dX6_goes_204 rfl ?_
            refine j_get 205 cx 0 0 (T := TX6) (v := .ref ((am 0))) (fun _ h => List.mem_cons_of_mem _ (List.mem_append_right _ (h))) (List.mem_of_getElem? (i := 2) rfl) (ci := 5) rfl (by decide) rfl rfl rfl dX6_goes_205 ?_
            refine j_iconst 208 cx 0 dX6_goes_208 (by decide) ?_
            refine j_dup2 209 cx dX6_goes_209 rfl rfl ?_
            refine j_iald 210 cx 1 0 rfl rfl (by omega) (by decide) dX6_goes_210 ?_
            refine j_top ((offF (holF (tireF σ)) k) 0 0) rfl ?_
            refine j_iconst 211 cx 1 dX6_goes_211 (by decide) ?_
            refine j_iadd 212 cx dX6_goes_212 ?_
            refine j_iast 213 cx 1 0 (wMO o am ik (nI p) tn tk be an va bd ++ [((am 0), .inl (gI G, 51, .inl (upd (mm (offF (holF (tireF σ)) k)) 0 (((offF (holF (tireF σ)) k) 0 0) + 1))))]) rfl rfl (by omega) (by decide) rfl dX6_goes_213 ?_
            refine j_ws (wMO o am ik (nI p) tn tk be an va bd ++ [((am 0), .inl (gI G, 51, .inl (mm (up2 (offF (holF (tireF σ)) k) 0 0 (((offF (holF (tireF σ)) k) 0 0) + 1)))))]) (congrArg (fun zf : Nat → Int32 => wMO o am ik (nI p) tn tk be an va bd ++ [((am 0), .inl (gI G, 51, .inl zf))]) (mm_usc _ _ (by omega))) ?_
            exact fin () _ _ _ dX6_goes_214 (congrArg (fun zn : Nu => wMO o am ik (nI p) tn tk be an va bd ++ [((am 0), .inl (gI G, 51, .inl (mm zn)))]) (by rw [show k = szN σ from by omega, dayF, ht_day])) trivial
          | succ d ih168 =>
            intro k hk
            refine j_iload_n 168 cx 0 dX6_goes_168 rfl ?_
            refine j_aload_n 169 cx 2 dX6_goes_169 rfl ?_
            refine j_get 170 cx 0 0 (T := TX6) (v := .ref ((am 0))) (fun _ h => List.mem_cons_of_mem _ (List.mem_append_right _ (h))) (List.mem_of_getElem? (i := 2) rfl) (ci := 5) rfl (by decide) rfl rfl rfl dX6_goes_170 ?_
            refine j_iconst 173 cx 3 dX6_goes_173 (by decide) ?_
            refine j_iald 174 cx 1 3 rfl rfl (by omega) (by decide) dX6_goes_174 ?_
            refine j_top ((offF (holF (tireF σ)) k) 0 3) rfl ?_
            refine j_top (nI (szN σ)) ((ht_size σ k).trans hI.sz) ?_
            refine j_icmp_ge_F 175 cx 204 dX6_goes_175 (by decide) (nI_ge (by omega) (by omega)) ?_
            refine j_aload_n 178 cx 2 dX6_goes_178 rfl ?_
            refine j_iload_n 179 cx 0 dX6_goes_179 rfl ?_
            refine j_iconst 180 cx 4 dX6_goes_180 (by decide) ?_
            refine j_aload_n 181 cx 2 dX6_goes_181 rfl ?_
            refine j_iload_n 182 cx 0 dX6_goes_182 rfl ?_
            refine j_iconst 183 cx 4 dX6_goes_183 (by decide) ?_
            refine j_callV_i 184 cx 2 [0, 1] [.int (nI k), .int 4] (fun _ => wMO o am ik (nI p) tn tk be an va bd ++ [((am 0), .inl (gI G, 51, .inl (mm (offF (holF (tireF σ)) k))))]) (c_X6_it (kl K) G o am ik (nI p) tn tk be an va bd (offF (holF (tireF σ)) k) k 4 (by omega) (by omega) ) gX6_goes_X6_it rfl rfl rfl ⟨rfl, by decide, by decide, rfl⟩ ⟨Nat.le_of_ble_eq_true rfl, Nat.le_of_ble_eq_true rfl⟩ ⟨Nat.zero_le _, Nat.zero_le _⟩ rfl (by decide) (ci := 5) 0 rfl rfl rfl rfl rfl (Nat.le_of_ble_eq_true rfl) dX6_goes_184 (fun _ => rfl) (fun zu39 zk39 => ?_)
            refine j_top ((offF (holF (tireF σ)) k) 6 k) rfl ?_
            refine j_iconst 187 cx 1 dX6_goes_187 (by decide) ?_
            refine j_isub 188 cx dX6_goes_188 ?_
            refine j_iconst 189 cx 0 dX6_goes_189 (by decide) ?_
            refine j_bipush 190 cx 99 dX6_goes_190 (by decide) ?_
            refine j_callS_i 192 cx 3 [] [.int (((offF (holF (tireF σ)) k) 6 k) - 1), .int 0, .int 99] (fun _ => wMO o am ik (nI p) tn tk be an va bd ++ [((am 0), .inl (gI G, 51, .inl (mm (offF (holF (tireF σ)) k))))]) (c_X6_held (kl K) G (((offF (holF (tireF σ)) k) 6 k) - 1) 0 99) gX6_goes_X6_held rfl rfl rfl ⟨by decide, by decide, rfl⟩ ⟨Nat.le_of_ble_eq_true rfl, Nat.le_of_ble_eq_true rfl⟩ ⟨Nat.zero_le _, Nat.zero_le _⟩ rfl (by decide) rfl rfl (Nat.le_of_ble_eq_true rfl) dX6_goes_192 (fun _ => rfl) (fun zu40 zk40 => ?_)
            refine j_top (hd (((offF (holF (tireF σ)) k) 6 k) - 1) 0 99) rfl ?_
            refine j_top (mx0 ((offF (holF (tireF σ)) k) 6 k - 1)) (hd_mx0 (of_1 (inv_offF (inv_holF (inv_tireF hI)) k) k)) ?_
            refine j_callV_v 195 cx 3 [0, 1] [.int (nI k), .int 4, .int (mx0 ((offF (holF (tireF σ)) k) 6 k - 1))] (fun _ => wMO o am ik (nI p) tn tk be an va bd ++ [((am 0), .inl (gI G, 51, .inl (mm (up2 (offF (holF (tireF σ)) k) 6 k (mx0 ((offF (holF (tireF σ)) k) 6 k - 1))))))]) (c_X6_put (kl K) G o am ik (nI p) tn tk be an va bd (offF (holF (tireF σ)) k) k 4 (mx0 ((offF (holF (tireF σ)) k) 6 k - 1)) (by omega) (by omega)) gX6_goes_X6_put rfl rfl rfl ⟨rfl, by decide, by decide, rfl⟩ ⟨Nat.le_of_ble_eq_true rfl, Nat.le_of_ble_eq_true rfl⟩ ⟨Nat.zero_le _, Nat.zero_le _⟩ rfl (by decide) (ci := 5) 0 rfl rfl rfl rfl rfl (Nat.le_of_ble_eq_true rfl) dX6_goes_195 (fun _ => rfl) (fun zu41 zk41 => ?_)
            refine j_iinc 198 cx [(2, .int (nI (k + 1))), (1, .int (kTires (σ 2 p))), (0, .ref o)] 0 (nI (k + 1)) dX6_goes_198 rfl (iinc1 k) (by decide) rfl ?_
            refine j_goto 201 cx 168 dX6_goes_201 (by decide) ?_
            have h9 := ih168 (k + 1) (by omega)
            exact h9
        exact L168 (szN σ) 0 (by omega)
theorem c_X6_goes (l : Launch) (G : pG) (o : Nat) (am : Nat → Nat) (ik : Bool) (la tn tk be an va : Int32) (bd : Bool) (σ : Nu) (hI : Inv σ) : KV l G yX6_goes wsX6_goes ({ frames := 6, cells := 0, slots := 0, locals := 135 } : Room) [.ref o] (wMO o am ik la tn tk be an va bd ++ [((am 0), .inl (gI G, 51, .inl (mm σ)))]) (S := Unit) (fun _ => True) (fun _ => wMO o am ik (oI (loud σ)) tn tk be an va bd ++ [((am 0), .inl (gI G, 51, .inl (mm (dayF σ))))]) := by
  cases hL : loud σ with
  | none => exact c_X6_goes_none l G o am ik la tn tk be an va bd σ hI hL
  | some p => exact c_X6_goes_some l G o am ik la tn tk be an va bd σ hI p hL
set_option maxRecDepth 100000 in
set_option maxHeartbeats 4000000 in
theorem c_X6_goesFor (l : Launch) (G : pG) (o : Nat) (am : Nat → Nat) (ik : Bool) (la tn tk be an va : Int32) (bd : Bool) (σ : Nu) (hI : Inv σ) (n : Nat) (hn : dyN σ + n < 1000000) : KV l G yX6_goesFor wsX6_goesFor ({ frames := 7, cells := 0, slots := 0, locals := 157 } : Room) [.ref o, .int (nI n)] (wMO o am ik la tn tk be an va bd ++ [((am 0), .inl (gI G, 51, .inl (mm σ)))]) (S := Int32) (fun _ => True) (fun u => wMO o am ik u tn tk be an va bd ++ [((am 0), .inl (gI G, 51, .inl (mm (daysF σ n))))]) := by
  refine kv_of [(0, .ref o), (1, .int (nI n))] (own := RX6) (cc := cX6_goesFor) (nL := 3) (by decide +kernel) rfl rfl (Nat.le_of_ble_eq_true rfl) rfl (fun _ => rfl) (fun K cx fin => ?_)
  refine j_iconst 0 cx 0 dX6_goesFor_0 (by decide) ?_
  refine j_istore_n 1 cx [(2, .int 0), (0, .ref o), (1, .int (nI n))] dX6_goesFor_1 (by decide) rfl ?_
  have L2 : ∀ d : Nat, ∀ (k : Nat) (zl : Int32), (k + d = n) → JJ G K 0 0 (wMO o am ik zl tn tk be an va bd ++ [((am 0), .inl (gI G, 51, .inl (mm (daysF σ k))))]) [(2, .int (nI k)), (1, .int (nI n)), (0, .ref o)] 2 [] := by
    intro d
    induction d with
    | zero =>
      intro k zl hk
      refine j_iload_n 2 cx 0 dX6_goesFor_2 rfl ?_
      refine j_iload_n 3 cx 1 dX6_goesFor_3 rfl ?_
      refine j_icmp_ge_T 4 cx 17 dX6_goesFor_4 (by decide) (nI_le (by omega) (by omega)) ?_
      exact fin zl _ _ _ dX6_goesFor_17 (by rw [show k = n from by omega]) trivial
    | succ d ih2 =>
      intro k zl hk
      refine j_iload_n 2 cx 0 dX6_goesFor_2 rfl ?_
      refine j_iload_n 3 cx 1 dX6_goesFor_3 rfl ?_
      refine j_icmp_ge_F 4 cx 17 dX6_goesFor_4 (by decide) (nI_ge (by omega) (by omega)) ?_
      refine j_aload_n 7 cx 2 dX6_goesFor_7 rfl ?_
      refine j_callV_v 8 cx 0 [0, 1] [] (fun _ => wMO o am ik (oI (loud (daysF σ k))) tn tk be an va bd ++ [((am 0), .inl (gI G, 51, .inl (mm (dayF (daysF σ k)))))]) (c_X6_goes (kl K) G o am ik zl tn tk be an va bd (daysF σ k) (inv_daysF hI k (by omega)).1) gX6_goesFor_X6_goes rfl rfl rfl ⟨rfl, by decide, by decide, rfl⟩ ⟨Nat.le_of_ble_eq_true rfl, Nat.le_of_ble_eq_true rfl⟩ ⟨Nat.zero_le _, Nat.zero_le _⟩ rfl (by decide) (ci := 5) 0 rfl rfl rfl rfl rfl (Nat.le_of_ble_eq_true rfl) dX6_goesFor_8 (fun _ => rfl) (fun zu1 zk1 => ?_)
      refine j_iinc 11 cx [(2, .int (nI (k + 1))), (1, .int (nI n)), (0, .ref o)] 0 (nI (k + 1)) dX6_goesFor_11 rfl (iinc1 k) (by decide) rfl ?_
      refine j_goto 14 cx 2 dX6_goesFor_14 (by decide) ?_
      exact ih2 (k + 1) (oI (loud (daysF σ k))) (by omega)
  refine j_lv [0, 2, 1] rfl ?_
  exact L2 n 0 la (by omega)
set_option maxRecDepth 100000 in
set_option maxHeartbeats 4000000 in
theorem c_X6_areDone (l : Launch) (G : pG) (o : Nat) (am : Nat → Nat) (ik : Bool) (la tn tk be an va : Int32) (bd : Bool) (σ : Nu) (hI : Inv σ) : KI l G yX6_areDone wsX6_areDone ({ frames := 4, cells := 0, slots := 0, locals := 87 } : Room) [.ref o] (wMO o am ik la tn tk be an va bd ++ [((am 0), .inl (gI G, 51, .inl (mm σ)))]) (S := Unit) (fun _ => True) (fun u => bI (gAll σ)) (fun u => wMO o am ik la tn tk be an va bd ++ [((am 0), .inl (gI G, 51, .inl (mm σ)))]) := by
  refine ki_of [(0, .ref o)] (own := RX6) (cc := cX6_areDone) (nL := 1) (by decide +kernel) rfl rfl (Nat.le_of_ble_eq_true rfl) rfl (fun _ => rfl) (fun K cx fin => ?_)
  refine j_aload_n 0 cx 0 dX6_areDone_0 rfl ?_
  refine j_callV_i 1 cx 0 [0, 1] [] (fun _ => wMO o am ik la tn tk be an va bd ++ [((am 0), .inl (gI G, 51, .inl (mm σ)))]) (c_X6_doneOnes (kl K) G o am ik la tn tk be an va bd σ  hI ) gX6_areDone_X6_doneOnes rfl rfl rfl ⟨rfl, by decide, by decide, rfl⟩ ⟨Nat.le_of_ble_eq_true rfl, Nat.le_of_ble_eq_true rfl⟩ ⟨Nat.zero_le _, Nat.zero_le _⟩ rfl (by decide) (ci := 5) 0 rfl rfl rfl rfl rfl (Nat.le_of_ble_eq_true rfl) dX6_areDone_1 (fun _ => rfl) (fun zu1 zk1 => ?_)
  refine j_top (setF σ (done σ) (szN σ)) rfl ?_
  refine j_iconst 4 cx 1 dX6_areDone_4 (by decide) ?_
  refine j_aload_n 5 cx 0 dX6_areDone_5 rfl ?_
  refine j_get 6 cx 0 0 (T := TX6) (v := .ref ((am 0))) (fun _ h => List.mem_cons_of_mem _ (List.mem_append_right _ (h))) (List.mem_of_getElem? (i := 1) rfl) (ci := 5) rfl (by decide) rfl rfl rfl dX6_areDone_6 ?_
  refine j_iconst 9 cx 3 dX6_areDone_9 (by decide) ?_
  refine j_iald 10 cx 1 3 rfl rfl (by omega) (by decide) dX6_areDone_10 ?_
  refine j_top (σ 0 3) rfl ?_
  refine j_top (nI (szN σ)) hI.sz ?_
  refine j_ishl 11 cx dX6_areDone_11 ?_
  refine j_iconst 12 cx 1 dX6_areDone_12 (by decide) ?_
  refine j_isub 13 cx dX6_areDone_13 ?_
  refine j_icmp_ne 14 cx 21 dX6_areDone_14 (by decide) (fun zc1 => ?_) (fun zc1 => ?_)
  · skip
    refine j_iconst 21 cx 0 dX6_areDone_21 (by decide) ?_
    exact fin () _ _ _ _ dX6_areDone_22 rfl (by rw [show gAll σ = false from decide_eq_false (fun h => zc1 ((all_set hI.sz8).mpr h))]; rfl) rfl trivial
  · skip
    refine j_iconst 17 cx 1 dX6_areDone_17 (by decide) ?_
    refine j_goto 18 cx 22 dX6_areDone_18 (by decide) ?_
    exact fin () _ _ _ _ dX6_areDone_22 rfl (by rw [show gAll σ = true from decide_eq_true ((all_set hI.sz8).mp zc1)]; rfl) rfl trivial
set_option maxRecDepth 100000 in
set_option maxHeartbeats 4000000 in
theorem c_X6_doneIn (l : Launch) (G : pG) (o : Nat) (am : Nat → Nat) (ik : Bool) (la tn tk be an va : Int32) (bd : Bool) (σ ω : Nu) (hI : Inv σ) (p : Nat) (hp : p < 8) (most : Nat) (hm : most < 1000) (hn : dyN σ + most + 1 < 1000000) : KI l G yX6_doneIn wsX6_doneIn ({ frames := 7, cells := 0, slots := 0, locals := 157 } : Room) [.ref o, .int (nI p), .int (nI most)] (wMO o am ik la tn tk be an va bd ++ ([((am 0), .inl (gI G, 51, .inl (mm σ)))] ++ [((am 2), .inl (gI G, 51, .inl (mm ω)))])) (S := Int32) (fun _ => True) (fun u => tM most (till (gDone p) most σ)) (fun u => wMO o am ik u tn tk be an va bd ++ ([((am 0), .inl (gI G, 51, .inl (mm ω)))] ++ [((am 2), .inl (gI G, 51, .inl (mm ω)))])) := by
  refine ki_of [(0, .ref o), (1, .int (nI p)), (2, .int (nI most))] (own := RX6) (cc := cX6_doneIn) (nL := 4) (by decide +kernel) rfl rfl (Nat.le_of_ble_eq_true rfl) rfl (fun _ => rfl) (fun K cx fin => ?_)
  refine j_iconst 0 cx 0 dX6_doneIn_0 (by decide) ?_
  refine j_istore_n 1 cx [(3, .int 0), (0, .ref o), (1, .int (nI p)), (2, .int (nI most))] dX6_doneIn_1 (by decide) rfl ?_
  have L2 : ∀ d : Nat, ∀ (k : Nat) (zl : Int32), (k + d = most + 1) → (TI (gDone p) most σ d k) → JJ G K 0 0 (wMO o am ik zl tn tk be an va bd ++ ([((am 0), .inl (gI G, 51, .inl (mm (daysF σ k))))] ++ [((am 2), .inl (gI G, 51, .inl (mm ω)))])) [(3, .int (nI k)), (2, .int (nI most)), (1, .int (nI p)), (0, .ref o)] 2 [] := by
    intro d
    induction d with
    | zero =>
      intro k zl hk hT
      refine j_iload_n 2 cx 0 dX6_doneIn_2 rfl ?_
      refine j_iload_n 3 cx 1 dX6_doneIn_3 rfl ?_
      refine j_icmp_gt_T 4 cx 25 dX6_doneIn_4 (by decide) (nI_lt (a := most) (by omega) (by omega)) ?_
      refine j_aload_n 25 cx 3 dX6_doneIn_25 rfl ?_
      refine j_callV_v 26 cx 0 [0, 1, 2] [] (fun _ => wMO o am ik zl tn tk be an va bd ++ ([((am 0), .inl (gI G, 51, .inl (mm ω)))] ++ [((am 2), .inl (gI G, 51, .inl (mm ω)))])) (c_X6_putsBack (kl K) G o am ik zl tn tk be an va bd (daysF σ k) ω) gX6_doneIn_X6_putsBack rfl rfl rfl ⟨rfl, by decide, by decide, rfl⟩ ⟨Nat.le_of_ble_eq_true rfl, Nat.le_of_ble_eq_true rfl⟩ ⟨Nat.zero_le _, Nat.zero_le _⟩ rfl (by decide) (ci := 5) 0 rfl rfl rfl rfl rfl (Nat.le_of_ble_eq_true rfl) dX6_doneIn_26 (fun _ => rfl) (fun zu1 zk1 => ?_)
      refine j_iload_n 29 cx 0 dX6_doneIn_29 rfl ?_
      refine j_iload_n 30 cx 1 dX6_doneIn_30 rfl ?_
      refine j_icmp_le_F 31 cx 38 dX6_doneIn_31 (by decide) (nI_ge (a := most) (by omega) (by omega)) ?_
      refine j_iconst 34 cx (-1) dX6_doneIn_34 (by decide) ?_
      refine j_goto 35 cx 39 dX6_doneIn_35 (by decide) ?_
      exact fin zl _ _ _ _ dX6_doneIn_39 rfl (by rw [tM, ti_end hT, if_neg (by omega)]) rfl trivial
    | succ d ih2 =>
      intro k zl hk hT
      refine j_iload_n 2 cx 0 dX6_doneIn_2 rfl ?_
      refine j_iload_n 3 cx 1 dX6_doneIn_3 rfl ?_
      refine j_icmp_gt_F 4 cx 25 dX6_doneIn_4 (by decide) (nI_nlt (a := most) (by omega) (by omega)) ?_
      refine j_aload_n 7 cx 3 dX6_doneIn_7 rfl ?_
      refine j_iload_n 8 cx 2 dX6_doneIn_8 rfl ?_
      refine j_callV_i 9 cx 1 [0, 1] [.int (nI p)] (fun _ => wMO o am ik zl tn tk be an va bd ++ ([((am 0), .inl (gI G, 51, .inl (mm (daysF σ k))))] ++ [((am 2), .inl (gI G, 51, .inl (mm ω)))])) (c_X6_isDone (kl K) G o am ik zl tn tk be an va bd (daysF σ k) p (by omega) ) gX6_doneIn_X6_isDone rfl rfl rfl ⟨rfl, by decide, by decide, rfl⟩ ⟨Nat.le_of_ble_eq_true rfl, Nat.le_of_ble_eq_true rfl⟩ ⟨Nat.zero_le _, Nat.zero_le _⟩ rfl (by decide) (ci := 5) 0 rfl rfl rfl rfl rfl (Nat.le_of_ble_eq_true rfl) dX6_doneIn_9 (fun _ => rfl) (fun zu2 zk2 => ?_)
      refine j_top (bI (done (daysF σ k) p)) rfl ?_
      refine j_ifB_ne 12 cx 25 dX6_doneIn_12 (by decide) (fun zc1 => ?_) (fun zc1 => ?_)
      · skip
        refine j_aload_n 25 cx 3 dX6_doneIn_25 rfl ?_
        refine j_callV_v 26 cx 0 [0, 1, 2] [] (fun _ => wMO o am ik zl tn tk be an va bd ++ ([((am 0), .inl (gI G, 51, .inl (mm ω)))] ++ [((am 2), .inl (gI G, 51, .inl (mm ω)))])) (c_X6_putsBack (kl K) G o am ik zl tn tk be an va bd (daysF σ k) ω) gX6_doneIn_X6_putsBack rfl rfl rfl ⟨rfl, by decide, by decide, rfl⟩ ⟨Nat.le_of_ble_eq_true rfl, Nat.le_of_ble_eq_true rfl⟩ ⟨Nat.zero_le _, Nat.zero_le _⟩ rfl (by decide) (ci := 5) 0 rfl rfl rfl rfl rfl (Nat.le_of_ble_eq_true rfl) dX6_doneIn_26 (fun _ => rfl) (fun zu3 zk3 => ?_)
        refine j_iload_n 29 cx 0 dX6_doneIn_29 rfl ?_
        refine j_iload_n 30 cx 1 dX6_doneIn_30 rfl ?_
        refine j_icmp_le_T 31 cx 38 dX6_doneIn_31 (by decide) (nI_le (b := most) (by omega) (by omega)) ?_
        refine j_iload_n 38 cx 0 dX6_doneIn_38 rfl ?_
        exact fin zl _ _ _ _ dX6_doneIn_39 rfl (by rw [tM, ti_yes (g := (gDone p)) hT zc1, if_pos (by omega)]) rfl trivial
      · skip
        refine j_aload_n 15 cx 3 dX6_doneIn_15 rfl ?_
        refine j_callV_v 16 cx 0 [0, 1] [] (fun _ => wMO o am ik (oI (loud (daysF σ k))) tn tk be an va bd ++ ([((am 0), .inl (gI G, 51, .inl (mm (dayF (daysF σ k)))))] ++ [((am 2), .inl (gI G, 51, .inl (mm ω)))])) (c_X6_goes (kl K) G o am ik zl tn tk be an va bd (daysF σ k) (inv_daysF hI k (by omega)).1) gX6_doneIn_X6_goes rfl rfl rfl ⟨rfl, by decide, by decide, rfl⟩ ⟨Nat.le_of_ble_eq_true rfl, Nat.le_of_ble_eq_true rfl⟩ ⟨Nat.zero_le _, Nat.zero_le _⟩ rfl (by decide) (ci := 5) 0 rfl rfl rfl rfl rfl (Nat.le_of_ble_eq_true rfl) dX6_doneIn_16 (fun _ => rfl) (fun zu4 zk4 => ?_)
        refine j_iinc 19 cx [(3, .int (nI (k + 1))), (2, .int (nI most)), (1, .int (nI p)), (0, .ref o)] 0 (nI (k + 1)) dX6_doneIn_19 rfl (iinc1 k) (by decide) rfl ?_
        refine j_goto 22 cx 2 dX6_doneIn_22 (by decide) ?_
        exact ih2 (k + 1) (oI (loud (daysF σ k))) (by omega) (ti_no hT zc1)
  refine j_lv [0, 3, 2, 1] rfl ?_
  exact L2 (most + 1) 0 la (by omega) (ti_start _ _ _)
set_option maxRecDepth 100000 in
set_option maxHeartbeats 4000000 in
theorem c_X6_allIn (l : Launch) (G : pG) (o : Nat) (am : Nat → Nat) (ik : Bool) (la tn tk be an va : Int32) (bd : Bool) (σ ω : Nu) (hI : Inv σ) (hn : dyN σ + 400 + 1 < 1000000) : KI l G yX6_allIn wsX6_allIn ({ frames := 7, cells := 0, slots := 0, locals := 157 } : Room) [.ref o] (wMO o am ik la tn tk be an va bd ++ ([((am 0), .inl (gI G, 51, .inl (mm σ)))] ++ [((am 2), .inl (gI G, 51, .inl (mm ω)))])) (S := Int32) (fun _ => True) (fun u => tM 400 (till gAll 400 σ)) (fun u => wMO o am ik u tn tk be an va bd ++ ([((am 0), .inl (gI G, 51, .inl (mm ω)))] ++ [((am 2), .inl (gI G, 51, .inl (mm ω)))])) := by
  refine ki_of [(0, .ref o)] (own := RX6) (cc := cX6_allIn) (nL := 2) (by decide +kernel) rfl rfl (Nat.le_of_ble_eq_true rfl) rfl (fun _ => rfl) (fun K cx fin => ?_)
  refine j_iconst 0 cx 0 dX6_allIn_0 (by decide) ?_
  refine j_istore_n 1 cx [(1, .int 0), (0, .ref o)] dX6_allIn_1 (by decide) rfl ?_
  have L2 : ∀ d : Nat, ∀ (k : Nat) (zl : Int32), (k + d = 400 + 1) → (TI gAll 400 σ d k) → JJ G K 0 0 (wMO o am ik zl tn tk be an va bd ++ ([((am 0), .inl (gI G, 51, .inl (mm (daysF σ k))))] ++ [((am 2), .inl (gI G, 51, .inl (mm ω)))])) [(1, .int (nI k)), (0, .ref o)] 2 [] := by
    intro d
    induction d with
    | zero =>
      intro k zl hk hT
      refine j_iload_n 2 cx 0 dX6_allIn_2 rfl ?_
      refine j_sipush 3 cx 400 dX6_allIn_3 (by decide) ?_
      refine j_icmp_gt_T 6 cx 26 dX6_allIn_6 (by decide) (nI_lt (a := 400) (by omega) (by omega)) ?_
      refine j_aload_n 26 cx 1 dX6_allIn_26 rfl ?_
      refine j_callV_v 27 cx 0 [0, 1, 2] [] (fun _ => wMO o am ik zl tn tk be an va bd ++ ([((am 0), .inl (gI G, 51, .inl (mm ω)))] ++ [((am 2), .inl (gI G, 51, .inl (mm ω)))])) (c_X6_putsBack (kl K) G o am ik zl tn tk be an va bd (daysF σ k) ω) gX6_allIn_X6_putsBack rfl rfl rfl ⟨rfl, by decide, by decide, rfl⟩ ⟨Nat.le_of_ble_eq_true rfl, Nat.le_of_ble_eq_true rfl⟩ ⟨Nat.zero_le _, Nat.zero_le _⟩ rfl (by decide) (ci := 5) 0 rfl rfl rfl rfl rfl (Nat.le_of_ble_eq_true rfl) dX6_allIn_27 (fun _ => rfl) (fun zu1 zk1 => ?_)
      refine j_iload_n 30 cx 0 dX6_allIn_30 rfl ?_
      refine j_sipush 31 cx 400 dX6_allIn_31 (by decide) ?_
      refine j_icmp_le_F 34 cx 41 dX6_allIn_34 (by decide) (nI_ge (a := 400) (by omega) (by omega)) ?_
      refine j_iconst 37 cx (-1) dX6_allIn_37 (by decide) ?_
      refine j_goto 38 cx 42 dX6_allIn_38 (by decide) ?_
      exact fin zl _ _ _ _ dX6_allIn_42 rfl (by rw [tM, ti_end hT, if_neg (by omega)]) rfl trivial
    | succ d ih2 =>
      intro k zl hk hT
      refine j_iload_n 2 cx 0 dX6_allIn_2 rfl ?_
      refine j_sipush 3 cx 400 dX6_allIn_3 (by decide) ?_
      refine j_icmp_gt_F 6 cx 26 dX6_allIn_6 (by decide) (nI_nlt (a := 400) (by omega) (by omega)) ?_
      refine j_aload_n 9 cx 1 dX6_allIn_9 rfl ?_
      refine j_callV_i 10 cx 0 [0, 1] [] (fun _ => wMO o am ik zl tn tk be an va bd ++ ([((am 0), .inl (gI G, 51, .inl (mm (daysF σ k))))] ++ [((am 2), .inl (gI G, 51, .inl (mm ω)))])) (c_X6_areDone (kl K) G o am ik zl tn tk be an va bd (daysF σ k)  (inv_daysF hI k (by omega)).1 ) gX6_allIn_X6_areDone rfl rfl rfl ⟨rfl, by decide, by decide, rfl⟩ ⟨Nat.le_of_ble_eq_true rfl, Nat.le_of_ble_eq_true rfl⟩ ⟨Nat.zero_le _, Nat.zero_le _⟩ rfl (by decide) (ci := 5) 0 rfl rfl rfl rfl rfl (Nat.le_of_ble_eq_true rfl) dX6_allIn_10 (fun _ => rfl) (fun zu2 zk2 => ?_)
      refine j_top (bI (gAll (daysF σ k))) rfl ?_
      refine j_ifB_ne 13 cx 26 dX6_allIn_13 (by decide) (fun zc1 => ?_) (fun zc1 => ?_)
      · skip
        refine j_aload_n 26 cx 1 dX6_allIn_26 rfl ?_
        refine j_callV_v 27 cx 0 [0, 1, 2] [] (fun _ => wMO o am ik zl tn tk be an va bd ++ ([((am 0), .inl (gI G, 51, .inl (mm ω)))] ++ [((am 2), .inl (gI G, 51, .inl (mm ω)))])) (c_X6_putsBack (kl K) G o am ik zl tn tk be an va bd (daysF σ k) ω) gX6_allIn_X6_putsBack rfl rfl rfl ⟨rfl, by decide, by decide, rfl⟩ ⟨Nat.le_of_ble_eq_true rfl, Nat.le_of_ble_eq_true rfl⟩ ⟨Nat.zero_le _, Nat.zero_le _⟩ rfl (by decide) (ci := 5) 0 rfl rfl rfl rfl rfl (Nat.le_of_ble_eq_true rfl) dX6_allIn_27 (fun _ => rfl) (fun zu3 zk3 => ?_)
        refine j_iload_n 30 cx 0 dX6_allIn_30 rfl ?_
        refine j_sipush 31 cx 400 dX6_allIn_31 (by decide) ?_
        refine j_icmp_le_T 34 cx 41 dX6_allIn_34 (by decide) (nI_le (b := 400) (by omega) (by omega)) ?_
        refine j_iload_n 41 cx 0 dX6_allIn_41 rfl ?_
        exact fin zl _ _ _ _ dX6_allIn_42 rfl (by rw [tM, ti_yes (g := gAll) hT zc1, if_pos (by omega)]) rfl trivial
      · skip
        refine j_aload_n 16 cx 1 dX6_allIn_16 rfl ?_
        refine j_callV_v 17 cx 0 [0, 1] [] (fun _ => wMO o am ik (oI (loud (daysF σ k))) tn tk be an va bd ++ ([((am 0), .inl (gI G, 51, .inl (mm (dayF (daysF σ k)))))] ++ [((am 2), .inl (gI G, 51, .inl (mm ω)))])) (c_X6_goes (kl K) G o am ik zl tn tk be an va bd (daysF σ k) (inv_daysF hI k (by omega)).1) gX6_allIn_X6_goes rfl rfl rfl ⟨rfl, by decide, by decide, rfl⟩ ⟨Nat.le_of_ble_eq_true rfl, Nat.le_of_ble_eq_true rfl⟩ ⟨Nat.zero_le _, Nat.zero_le _⟩ rfl (by decide) (ci := 5) 0 rfl rfl rfl rfl rfl (Nat.le_of_ble_eq_true rfl) dX6_allIn_17 (fun _ => rfl) (fun zu4 zk4 => ?_)
        refine j_iinc 20 cx [(1, .int (nI (k + 1))), (0, .ref o)] 0 (nI (k + 1)) dX6_allIn_20 rfl (iinc1 k) (by decide) rfl ?_
        refine j_goto 23 cx 2 dX6_allIn_23 (by decide) ?_
        exact ih2 (k + 1) (oI (loud (daysF σ k))) (by omega) (ti_no hT zc1)
  exact L2 (400 + 1) 0 la (by omega) (ti_start _ _ _)
set_option maxRecDepth 100000 in
set_option maxHeartbeats 4000000 in
theorem c_X6_lateOn (l : Launch) (G : pG) (o : Nat) (am : Nat → Nat) (ik : Bool) (la tn tk be an va : Int32) (bd : Bool) (σ ω : Nu) (hI : Inv σ) (n : Nat) (hn : dyN σ + n < 1000000) : KI l G yX6_lateOn wsX6_lateOn ({ frames := 8, cells := 0, slots := 0, locals := 179 } : Room) [.ref o, .int (nI n)] (wMO o am ik la tn tk be an va bd ++ ([((am 0), .inl (gI G, 51, .inl (mm σ)))] ++ [((am 2), .inl (gI G, 51, .inl (mm ω)))])) (S := Int32) (fun _ => True) (fun u => daysF σ n 0 2) (fun u => wMO o am ik u tn tk be an va bd ++ ([((am 0), .inl (gI G, 51, .inl (mm ω)))] ++ [((am 2), .inl (gI G, 51, .inl (mm ω)))])) := by
  refine ki_of [(0, .ref o), (1, .int (nI n))] (own := RX6) (cc := cX6_lateOn) (nL := 3) (by decide +kernel) rfl rfl (Nat.le_of_ble_eq_true rfl) rfl (fun _ => rfl) (fun K cx fin => ?_)
  refine j_aload_n 0 cx 0 dX6_lateOn_0 rfl ?_
  refine j_iload_n 1 cx 1 dX6_lateOn_1 rfl ?_
  refine j_callV_v 2 cx 1 [0, 1] [.int (nI n)] (fun zl1 => wMO o am ik zl1 tn tk be an va bd ++ ([((am 0), .inl (gI G, 51, .inl (mm (daysF σ n))))] ++ [((am 2), .inl (gI G, 51, .inl (mm ω)))])) (c_X6_goesFor (kl K) G o am ik la tn tk be an va bd σ hI n (by omega)) gX6_lateOn_X6_goesFor rfl rfl rfl ⟨rfl, by decide, by decide, rfl⟩ ⟨Nat.le_of_ble_eq_true rfl, Nat.le_of_ble_eq_true rfl⟩ ⟨Nat.zero_le _, Nat.zero_le _⟩ rfl (by decide) (ci := 5) 0 rfl rfl rfl rfl rfl (Nat.le_of_ble_eq_true rfl) dX6_lateOn_2 (fun _ => rfl) (fun zl1 zk1 => ?_)
  refine j_aload_n 5 cx 0 dX6_lateOn_5 rfl ?_
  refine j_get 6 cx 0 0 (T := TX6) (v := .ref ((am 0))) (fun _ h => List.mem_cons_of_mem _ (List.mem_append_right _ (h))) (List.mem_of_getElem? (i := 1) rfl) (ci := 5) rfl (by decide) rfl rfl rfl dX6_lateOn_6 ?_
  refine j_iconst 9 cx 2 dX6_lateOn_9 (by decide) ?_
  refine j_iald 10 cx 1 2 rfl rfl (by omega) (by decide) dX6_lateOn_10 ?_
  refine j_top ((daysF σ n) 0 2) rfl ?_
  refine j_istore_n 11 cx [(2, .int ((daysF σ n) 0 2)), (0, .ref o), (1, .int (nI n))] dX6_lateOn_11 (by decide) rfl ?_
  refine j_aload_n 12 cx 1 dX6_lateOn_12 rfl ?_
  refine j_callV_v 13 cx 0 [0, 1, 2] [] (fun _ => wMO o am ik zl1 tn tk be an va bd ++ ([((am 0), .inl (gI G, 51, .inl (mm ω)))] ++ [((am 2), .inl (gI G, 51, .inl (mm ω)))])) (c_X6_putsBack (kl K) G o am ik zl1 tn tk be an va bd (daysF σ n) ω) gX6_lateOn_X6_putsBack rfl rfl rfl ⟨rfl, by decide, by decide, rfl⟩ ⟨Nat.le_of_ble_eq_true rfl, Nat.le_of_ble_eq_true rfl⟩ ⟨Nat.zero_le _, Nat.zero_le _⟩ rfl (by decide) (ci := 5) 0 rfl rfl rfl rfl rfl (Nat.le_of_ble_eq_true rfl) dX6_lateOn_13 (fun _ => rfl) (fun zu2 zk2 => ?_)
  refine j_iload_n 16 cx 0 dX6_lateOn_16 rfl ?_
  exact fin zl1 _ _ _ _ dX6_lateOn_17 rfl rfl rfl trivial
set_option maxRecDepth 100000 in
set_option maxHeartbeats 4000000 in
theorem c_X6_orNone (l : Launch) (G : pG) (o : Nat) (am : Nat → Nat) (ik : Bool) (la tn tk be an va : Int32) (bd : Bool) (fo : Nat → Int32) (v : Int32) : KI l G yX6_orNone wsX6_orNone ({ frames := 1, cells := 0, slots := 0, locals := 21 } : Room) [.ref o, .int v] (wMO o am ik la tn tk be an va bd ++ [((am 3), .inl (gI G, 7, .inl fo))]) (S := Unit) (fun _ => True) (fun u => oN v) (fun u => wMO o am ik la tn tk be an va bd ++ [((am 3), .inl (gI G, 7, .inl (oF v fo)))]) := by
  refine ki_of [(0, .ref o), (1, .int v)] (own := RX6) (cc := cX6_orNone) (nL := 2) (by decide +kernel) rfl rfl (Nat.le_of_ble_eq_true rfl) rfl (fun _ => rfl) (fun K cx fin => ?_)
  refine j_iload_n 0 cx 1 dX6_orNone_0 rfl ?_
  refine j_if_ge 1 cx 13 dX6_orNone_1 (by decide) (fun zc1 => ?_) (fun zc1 => ?_)
  · skip
    refine j_iload_n 13 cx 1 dX6_orNone_13 rfl ?_
    exact fin () _ _ _ _ dX6_orNone_14 rfl (by simp [oN, Int32.not_lt.mpr zc1]) (congrArg (fun zf : Nat → Int32 => wMO o am ik la tn tk be an va bd ++ [((am 3), .inl (gI G, 7, .inl zf))]) (if_neg (Int32.not_lt.mpr zc1)).symm) trivial
  · skip
    refine j_aload_n 4 cx 0 dX6_orNone_4 rfl ?_
    refine j_ldc 5 cx (v := -1000000004) (List.mem_of_getElem? (i := 1) rfl) dX6_orNone_5 ?_
    refine j_callV_i 7 cx 1 [0, 1] [.int (fcode 3)] (fun _ => wMO o am ik la tn tk be an va bd ++ [((am 3), .inl (gI G, 7, .inl (upd fo 3 (fo 3 + 1))))]) (c_X6_finds (kl K) G o am ik la tn tk be an va bd fo 3 (by decide)) gX6_orNone_X6_finds rfl rfl rfl ⟨rfl, by decide, by decide, rfl⟩ ⟨Nat.le_of_ble_eq_true rfl, Nat.le_of_ble_eq_true rfl⟩ ⟨Nat.zero_le _, Nat.zero_le _⟩ rfl (by decide) (ci := 5) 0 rfl rfl rfl rfl rfl (Nat.le_of_ble_eq_true rfl) dX6_orNone_7 (fun _ => rfl) (fun zu1 zk1 => ?_)
    refine j_top (fcode 3) rfl ?_
    refine j_goto 10 cx 14 dX6_orNone_10 (by decide) ?_
    exact fin () _ _ _ _ dX6_orNone_14 rfl (by rw [oN, if_pos (Int32.not_le.mp zc1)]) (congrArg (fun zf : Nat → Int32 => wMO o am ik la tn tk be an va bd ++ [((am 3), .inl (gI G, 7, .inl zf))]) (if_pos (Int32.not_le.mp zc1)).symm) trivial
set_option maxRecDepth 100000 in
set_option maxHeartbeats 4000000 in
theorem c_X6_isPart (l : Launch) (G : pG) (o : Nat) (am : Nat → Nat) (ik : Bool) (la tn tk be an va : Int32) (bd : Bool) (σ : Nu) (p : Int32) (hI : Inv σ) : KI l G yX6_isPart wsX6_isPart ({ frames := 1, cells := 0, slots := 0, locals := 23 } : Room) [.ref o, .int p] (wMO o am ik la tn tk be an va bd ++ [((am 0), .inl (gI G, 51, .inl (mm σ)))]) (S := Unit) (fun _ => True) (fun u => bI (inI p 0 (nI (szN σ) - 1))) (fun u => wMO o am ik la tn tk be an va bd ++ [((am 0), .inl (gI G, 51, .inl (mm σ)))]) := by
  refine ki_of [(0, .ref o), (1, .int p)] (own := RX6) (cc := cX6_isPart) (nL := 2) (by decide +kernel) rfl rfl (Nat.le_of_ble_eq_true rfl) rfl (fun _ => rfl) (fun K cx fin => ?_)
  refine j_iload_n 0 cx 1 dX6_isPart_0 rfl ?_
  refine j_i2l 1 cx dX6_isPart_1 ?_
  refine j_iconst 2 cx 0 dX6_isPart_2 (by decide) ?_
  refine j_aload_n 3 cx 0 dX6_isPart_3 rfl ?_
  refine j_get 4 cx 0 0 (T := TX6) (v := .ref ((am 0))) (fun _ h => List.mem_cons_of_mem _ (List.mem_append_right _ (h))) (List.mem_of_getElem? (i := 1) rfl) (ci := 5) rfl (by decide) rfl rfl rfl dX6_isPart_4 ?_
  refine j_iconst 7 cx 3 dX6_isPart_7 (by decide) ?_
  refine j_iald 8 cx 1 3 rfl rfl (by omega) (by decide) dX6_isPart_8 ?_
  refine j_top (σ 0 3) rfl ?_
  refine j_top (nI (szN σ)) hI.sz ?_
  refine j_iconst 9 cx 1 dX6_isPart_9 (by decide) ?_
  refine j_isub 10 cx dX6_isPart_10 ?_
  refine j_callS_i 11 cx 3 [] [.long (p.toInt64), .int 0, .int ((nI (szN σ)) - 1)] (fun _ => wMO o am ik la tn tk be an va bd ++ [((am 0), .inl (gI G, 51, .inl (mm σ)))]) (c_X6_in (kl K) G (p.toInt64) 0 ((nI (szN σ)) - 1)) gX6_isPart_X6_in rfl rfl rfl ⟨by decide, by decide, rfl⟩ ⟨Nat.le_of_ble_eq_true rfl, Nat.le_of_ble_eq_true rfl⟩ ⟨Nat.zero_le _, Nat.zero_le _⟩ rfl (by decide) rfl rfl (Nat.le_of_ble_eq_true rfl) dX6_isPart_11 (fun _ => rfl) (fun zu1 zk1 => ?_)
  refine j_top (bI (inL (p.toInt64) 0 ((nI (szN σ)) - 1))) rfl ?_
  refine j_top (bI (inI p 0 ((nI (szN σ)) - 1))) (congrArg bI (inL_i p 0 ((nI (szN σ)) - 1))) ?_
  exact fin () _ _ _ _ dX6_isPart_14 (bI_nar _) rfl rfl trivial
set_option maxRecDepth 100000 in
set_option maxHeartbeats 4000000 in
theorem c_X6_comesAs (l : Launch) (G : pG) (o : Nat) (am : Nat → Nat) (ik : Bool) (la tn tk be an va : Int32) (bd : Bool) (σ : Nu) (kk du ln pf : Int32) (hz : σ 0 3 = nI (szN σ)) (hz8 : szN σ < 8) : KI l G yX6_comesAs wsX6_comesAs ({ frames := 1, cells := 0, slots := 0, locals := 23 } : Room) [.ref o, .int kk, .int du, .int ln, .int pf] (wMO o am ik la tn tk be an va bd ++ [((am 0), .inl (gI G, 51, .inl (mm σ)))]) (S := Unit) (fun _ => True) (fun u => nI (szN σ)) (fun u => wMO o am ik la tn tk be an va bd ++ [((am 0), .inl (gI G, 51, .inl (mm (addF σ kk ln du pf))))]) := by
  refine ki_of [(0, .ref o), (1, .int kk), (2, .int du), (3, .int ln), (4, .int pf)] (own := RX6) (cc := cX6_comesAs) (nL := 6) (by decide +kernel) rfl rfl (Nat.le_of_ble_eq_true rfl) rfl (fun _ => rfl) (fun K cx fin => ?_)
  refine j_aload_n 0 cx 0 dX6_comesAs_0 rfl ?_
  refine j_get 1 cx 0 0 (T := TX6) (v := .ref ((am 0))) (fun _ h => List.mem_cons_of_mem _ (List.mem_append_right _ (h))) (List.mem_of_getElem? (i := 1) rfl) (ci := 5) rfl (by decide) rfl rfl rfl dX6_comesAs_1 ?_
  refine j_iconst 4 cx 3 dX6_comesAs_4 (by decide) ?_
  refine j_iald 5 cx 1 3 rfl rfl (by omega) (by decide) dX6_comesAs_5 ?_
  refine j_top (σ 0 3) rfl ?_
  refine j_top (nI (szN σ)) hz ?_
  refine j_istore 6 cx [(5, .int (nI (szN σ))), (0, .ref o), (1, .int kk), (2, .int du), (3, .int ln), (4, .int pf)] dX6_comesAs_6 (by decide) rfl ?_
  refine j_aload_n 8 cx 1 dX6_comesAs_8 rfl ?_
  refine j_get 9 cx 0 0 (T := TX6) (v := .ref ((am 0))) (fun _ h => List.mem_cons_of_mem _ (List.mem_append_right _ (h))) (List.mem_of_getElem? (i := 1) rfl) (ci := 5) rfl (by decide) rfl rfl rfl dX6_comesAs_9 ?_
  refine j_iconst 12 cx 3 dX6_comesAs_12 (by decide) ?_
  refine j_dup2 13 cx dX6_comesAs_13 rfl rfl ?_
  refine j_iald 14 cx 1 3 rfl rfl (by omega) (by decide) dX6_comesAs_14 ?_
  refine j_top (σ 0 3) rfl ?_
  refine j_top (nI (szN σ)) hz ?_
  refine j_iconst 15 cx 1 dX6_comesAs_15 (by decide) ?_
  refine j_iadd 16 cx dX6_comesAs_16 ?_
  refine j_top (nI (szN σ + 1)) (nI_add (szN σ) 1) ?_
  refine j_iast 17 cx 1 3 (wMO o am ik la tn tk be an va bd ++ [((am 0), .inl (gI G, 51, .inl (upd (mm σ) 3 (nI (szN σ + 1)))))]) rfl rfl (by omega) (by decide) rfl dX6_comesAs_17 ?_
  refine j_ws (wMO o am ik la tn tk be an va bd ++ [((am 0), .inl (gI G, 51, .inl (mm (up2 σ 0 3 (nI (szN σ + 1))))))]) (congrArg (fun zf : Nat → Int32 => wMO o am ik la tn tk be an va bd ++ [((am 0), .inl (gI G, 51, .inl zf))]) (mm_usc _ _ (by omega))) ?_
  refine j_aload_n 18 cx 1 dX6_comesAs_18 rfl ?_
  refine j_iload 19 cx 0 dX6_comesAs_19 rfl ?_
  refine j_iconst 21 cx 0 dX6_comesAs_21 (by decide) ?_
  refine j_iload_n 22 cx 2 dX6_comesAs_22 rfl ?_
  refine j_callV_v 23 cx 3 [0, 1] [.int (nI (szN σ)), .int 0, .int kk] (fun _ => wMO o am ik la tn tk be an va bd ++ [((am 0), .inl (gI G, 51, .inl (mm (up2 (up2 σ 0 3 (nI (szN σ + 1))) 2 (szN σ) kk))))]) (c_X6_put (kl K) G o am ik la tn tk be an va bd (up2 σ 0 3 (nI (szN σ + 1))) (szN σ) 0 kk (by omega) (by omega)) gX6_comesAs_X6_put rfl rfl rfl ⟨rfl, by decide, by decide, rfl⟩ ⟨Nat.le_of_ble_eq_true rfl, Nat.le_of_ble_eq_true rfl⟩ ⟨Nat.zero_le _, Nat.zero_le _⟩ rfl (by decide) (ci := 5) 0 rfl rfl rfl rfl rfl (Nat.le_of_ble_eq_true rfl) dX6_comesAs_23 (fun _ => rfl) (fun zu1 zk1 => ?_)
  refine j_aload_n 26 cx 1 dX6_comesAs_26 rfl ?_
  refine j_iload 27 cx 0 dX6_comesAs_27 rfl ?_
  refine j_iconst 29 cx 1 dX6_comesAs_29 (by decide) ?_
  refine j_iload_n 30 cx 4 dX6_comesAs_30 rfl ?_
  refine j_callV_v 31 cx 3 [0, 1] [.int (nI (szN σ)), .int 1, .int ln] (fun _ => wMO o am ik la tn tk be an va bd ++ [((am 0), .inl (gI G, 51, .inl (mm (up2 (up2 (up2 σ 0 3 (nI (szN σ + 1))) 2 (szN σ) kk) 3 (szN σ) ln))))]) (c_X6_put (kl K) G o am ik la tn tk be an va bd (up2 (up2 σ 0 3 (nI (szN σ + 1))) 2 (szN σ) kk) (szN σ) 1 ln (by omega) (by omega)) gX6_comesAs_X6_put rfl rfl rfl ⟨rfl, by decide, by decide, rfl⟩ ⟨Nat.le_of_ble_eq_true rfl, Nat.le_of_ble_eq_true rfl⟩ ⟨Nat.zero_le _, Nat.zero_le _⟩ rfl (by decide) (ci := 5) 0 rfl rfl rfl rfl rfl (Nat.le_of_ble_eq_true rfl) dX6_comesAs_31 (fun _ => rfl) (fun zu2 zk2 => ?_)
  refine j_aload_n 34 cx 1 dX6_comesAs_34 rfl ?_
  refine j_iload 35 cx 0 dX6_comesAs_35 rfl ?_
  refine j_iconst 37 cx 2 dX6_comesAs_37 (by decide) ?_
  refine j_iconst 38 cx 0 dX6_comesAs_38 (by decide) ?_
  refine j_callV_v 39 cx 3 [0, 1] [.int (nI (szN σ)), .int 2, .int 0] (fun _ => wMO o am ik la tn tk be an va bd ++ [((am 0), .inl (gI G, 51, .inl (mm (up2 (up2 (up2 (up2 σ 0 3 (nI (szN σ + 1))) 2 (szN σ) kk) 3 (szN σ) ln) 4 (szN σ) 0))))]) (c_X6_put (kl K) G o am ik la tn tk be an va bd (up2 (up2 (up2 σ 0 3 (nI (szN σ + 1))) 2 (szN σ) kk) 3 (szN σ) ln) (szN σ) 2 0 (by omega) (by omega)) gX6_comesAs_X6_put rfl rfl rfl ⟨rfl, by decide, by decide, rfl⟩ ⟨Nat.le_of_ble_eq_true rfl, Nat.le_of_ble_eq_true rfl⟩ ⟨Nat.zero_le _, Nat.zero_le _⟩ rfl (by decide) (ci := 5) 0 rfl rfl rfl rfl rfl (Nat.le_of_ble_eq_true rfl) dX6_comesAs_39 (fun _ => rfl) (fun zu3 zk3 => ?_)
  refine j_aload_n 42 cx 1 dX6_comesAs_42 rfl ?_
  refine j_iload 43 cx 0 dX6_comesAs_43 rfl ?_
  refine j_iconst 45 cx 3 dX6_comesAs_45 (by decide) ?_
  refine j_iload_n 46 cx 3 dX6_comesAs_46 rfl ?_
  refine j_callV_v 47 cx 3 [0, 1] [.int (nI (szN σ)), .int 3, .int du] (fun _ => wMO o am ik la tn tk be an va bd ++ [((am 0), .inl (gI G, 51, .inl (mm (up2 (up2 (up2 (up2 (up2 σ 0 3 (nI (szN σ + 1))) 2 (szN σ) kk) 3 (szN σ) ln) 4 (szN σ) 0) 5 (szN σ) du))))]) (c_X6_put (kl K) G o am ik la tn tk be an va bd (up2 (up2 (up2 (up2 σ 0 3 (nI (szN σ + 1))) 2 (szN σ) kk) 3 (szN σ) ln) 4 (szN σ) 0) (szN σ) 3 du (by omega) (by omega)) gX6_comesAs_X6_put rfl rfl rfl ⟨rfl, by decide, by decide, rfl⟩ ⟨Nat.le_of_ble_eq_true rfl, Nat.le_of_ble_eq_true rfl⟩ ⟨Nat.zero_le _, Nat.zero_le _⟩ rfl (by decide) (ci := 5) 0 rfl rfl rfl rfl rfl (Nat.le_of_ble_eq_true rfl) dX6_comesAs_47 (fun _ => rfl) (fun zu4 zk4 => ?_)
  refine j_aload_n 50 cx 1 dX6_comesAs_50 rfl ?_
  refine j_iload 51 cx 0 dX6_comesAs_51 rfl ?_
  refine j_iconst 53 cx 4 dX6_comesAs_53 (by decide) ?_
  refine j_iload 54 cx 5 dX6_comesAs_54 rfl ?_
  refine j_callV_v 56 cx 3 [0, 1] [.int (nI (szN σ)), .int 4, .int pf] (fun _ => wMO o am ik la tn tk be an va bd ++ [((am 0), .inl (gI G, 51, .inl (mm (up2 (up2 (up2 (up2 (up2 (up2 σ 0 3 (nI (szN σ + 1))) 2 (szN σ) kk) 3 (szN σ) ln) 4 (szN σ) 0) 5 (szN σ) du) 6 (szN σ) pf))))]) (c_X6_put (kl K) G o am ik la tn tk be an va bd (up2 (up2 (up2 (up2 (up2 σ 0 3 (nI (szN σ + 1))) 2 (szN σ) kk) 3 (szN σ) ln) 4 (szN σ) 0) 5 (szN σ) du) (szN σ) 4 pf (by omega) (by omega)) gX6_comesAs_X6_put rfl rfl rfl ⟨rfl, by decide, by decide, rfl⟩ ⟨Nat.le_of_ble_eq_true rfl, Nat.le_of_ble_eq_true rfl⟩ ⟨Nat.zero_le _, Nat.zero_le _⟩ rfl (by decide) (ci := 5) 0 rfl rfl rfl rfl rfl (Nat.le_of_ble_eq_true rfl) dX6_comesAs_56 (fun _ => rfl) (fun zu5 zk5 => ?_)
  refine j_iload 59 cx 0 dX6_comesAs_59 rfl ?_
  exact fin () _ _ _ _ dX6_comesAs_61 rfl rfl (congrArg (fun zn : Nu => wMO o am ik la tn tk be an va bd ++ [((am 0), .inl (gI G, 51, .inl (mm zn)))]) (cas_eq _ _ _ _ _)) trivial
