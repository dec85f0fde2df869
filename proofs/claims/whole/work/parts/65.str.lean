/-! What lies outside the worlds: statics, text constants; the methods of a text. -/
abbrev gK (G : pG) : Nat → Nat := G.2.2.2.1
abbrev gV (G : pG) : Nat → Nat := G.2.2.2.2
section JU
variable {G : pG} {K : pK} {cc : ByteArray} {own : String} {Ts : List Cond} {nL : Nat} {rm : Room} {cells slots : Nat} {ws : va_W} {lv : List (Nat × Value)} {st : List Value}
theorem CX.e (cx : CX G K cc own Ts nL rm) : gE G (kA K) (ks K) (ks K).heap := cx.2.2.2.2.2.2.2.2.2.1
theorem j_gets (pc : Nat) (cx : CX G K cc own Ts nL rm) {C n d ref : String} {v : Value} {index : Nat} (hZ : va_Z C n d v (kA K) (ks K) (ks K).heap) (hlk : Cond.fieldLink own index ref n d ∈ Ts) (hsm : C = ref) (hdg : decode cc pc = .ok (.getstatic index, 3)) (kk : JJ G K cells slots ws lv (pc + 3) (v :: st)) : JJ G K cells slots ws lv pc st := by
  subst hsm
  exact fun H locs ls hP hD hS hl => va_gets cx.1 cx.2.1 hZ hS cx.2.2.2.1 (cx.2.2.1 _ hlk) (fun x h => h) hdg (kk H locs ls hP hD hS hl)
theorem j_iaT (pc : Nat) (cx : CX G K cc own Ts nL rm) (i : Nat) {t N : Nat} {f : Nat → Value} {x : Int32} (hT : va_T .int t N f (kA K) (ks K) (ks K).heap) (hi : x = nI i) (hlt : i < N) (hN : N < 2147483648) {v : Value} (hv : f i = v) (hdg : decode cc pc = .ok (.iaload, 1)) (kk : JJ G K cells slots ws lv (pc + 1) (v :: st)) : JJ G K cells slots ws lv pc (.int x :: .ref t :: st) := by
  subst hi
  intro H locs ls hP hD hS hl
  exact va_ti cx.1 cx.2.1 hT hS (vp_in_nI hlt hN) (by rw [nI_clamp (Nat.lt_trans hlt hN)]; exact hv) hdg (kk H locs ls hP hD hS hl)
theorem j_baT (pc : Nat) (cx : CX G K cc own Ts nL rm) (i : Nat) {t N : Nat} {f : Nat → Value} {x : Int32} (hT : va_T .byte t N f (kA K) (ks K) (ks K).heap) (hi : x = nI i) (hlt : i < N) (hN : N < 2147483648) {v : Value} (hv : f i = v) (hdg : decode cc pc = .ok (.baload, 1)) (kk : JJ G K cells slots ws lv (pc + 1) (v :: st)) : JJ G K cells slots ws lv pc (.int x :: .ref t :: st) := by
  subst hi
  intro H locs ls hP hD hS hl
  exact va_tb cx.1 cx.2.1 hT hS (vp_in_nI hlt hN) (by rw [nI_clamp (Nat.lt_trans hlt hN)]; exact hv) hdg (kk H locs ls hP hD hS hl)
theorem j_tlen (pc : Nat) (cx : CX G K cc own Ts nL rm) {ty : FieldType} {t N : Nat} {f : Nat → Value} (hT : va_T ty t N f (kA K) (ks K) (ks K).heap) (hdg : decode cc pc = .ok (.arraylength, 1)) (kk : JJ G K cells slots ws lv (pc + 1) (.int (nI N) :: st)) : JJ G K cells slots ws lv pc (.ref t :: st) :=
  fun H locs ls hP hD hS hl => va_tlen cx.1 cx.2.1 hT hS rfl hdg (kk H locs ls hP hD hS hl)
theorem j_getO (pc : Nat) (cx : CX G K cc own Ts nL rm) {C n d ref : String} {index q : Nat} {v : Value} (hE : va_OF C n d v q (kA K) (ks K) (ks K).heap) (hlk : Cond.fieldLink own index ref n d ∈ Ts) (hsm : C = ref) (hdg : decode cc pc = .ok (.getfield index, 3)) (kk : JJ G K cells slots ws lv (pc + 3) (v :: st)) : JJ G K cells slots ws lv pc (.ref q :: st) := by
  subst hsm
  exact fun H locs ls hP hD hS hl => vk_getf cx.1 cx.2.1 hE hS cx.2.2.2.1 (cx.2.2.1 _ hlk) (fun x h => h) hdg (kk H locs ls hP hD hS hl)
theorem j_ldcS (pc : Nat) (cx : CX G K cc own Ts nL rm) {tx : String} {index q : Nat} (hZ : vk_R own index tx q (ks K)) (hdg : decode cc pc = .ok (.ldc index, 2)) (kk : JJ G K cells slots ws lv (pc + 2) (.ref q :: st)) : JJ G K cells slots ws lv pc st :=
  fun H locs ls hP hD hS hl => va_ldcS cx.1 cx.2.1 cx.2.2.2.1 hZ hdg (kk H locs ls hP hD hS hl)
/-- a call of a text's own method -/
theorem j_callO_i (pc : Nat) (cx : CX G K cc own Ts nL rm) (n : Nat) (is : List Nat) (As : List Value) {cells slots : Nat} {b : Nat} {y : MethodName} {wy ws' : List Cond} {bytes : ByteArray} {maxL : Nat} {ret : Option FieldType} {rm' : Room} {W1 : va_W} {S : Type} {ok : S → Prop} {rv : S → Int32} {W2 : S → va_W} (WF : S → va_W) (hM : KI (kl K) G y wy rm' (.ref b :: As) W1 ok rv W2) {index : Nat} {C : String} (hT : GoodIn Ts (wsV own index C y wy)) (hw : wy = Cond.code y bytes maxL ret :: ws') (hrc : rm'.cells = 0) (hrs : rm'.slots = 0) (hd : y.cls = C ∧ y.cls ≠ "java/lang/invoke/MethodHandle" ∧ y.cls ≠ "java/lang/invoke/VarHandle" ∧ (parseMethodDescriptor y.desc).map (fun d => d.parameters.length) = some n) (hR : rm'.frames + 1 ≤ rm.frames ∧ 8 + (maxL + 11) + rm'.locals ≤ rm.locals) (hce : cells ≤ rm.cells ∧ slots ≤ rm.slots)
    (hC : is.map (fun i => ws[i]?) = W1.map some) (hn : va_nd is = true) (i : Nat) (hi : i < 11) (hb : b = gK G i) (hqC : C = "java/lang/String") (hlen : As.length = n) {st0 : List Value} (hst : st0 = As.reverse ++ .ref b :: st) (hroom : (st.map fun v => v.category).sum ≤ 8) (hdg : decode cc pc = .ok (.invokevirtual index, 3)) (hWF : ∀ u, rep ws is (W2 u) = WF u)
    (kk : ∀ u, ok u → JJ G K cells slots (WF u) lv (pc + 3) (.int (rv u) :: st)) : JJ G K cells slots ws lv pc st0 := by
  subst hst; subst hb; subst hqC
  intro H locs ls hP hD hS hl
  obtain ⟨c1, c2, c3, c4, c5, c6, c7, c8, c9, c10, c11⟩ := id cx
  have hF := va_free (wc := W1) hD hS c6 is hC
  refine va_calli (va_runV (As := As) (rest := st) ⟨c1, c2, c7, c4, c3⟩ (hM.2 H.size) (cwV n c3 hT hw hrc hrs hd (by rw [c9]; exact hR)) ⟨KPre.blind, vk_recv c10.2.2.2.2.1 hi hS, pre_at cx hP hD hS is hC hn (.ref (gK G i) :: As)⟩ rfl hlen (hl.1.trans c8) rfl (lv_room hroom) hdg (by rw [c9]; exact hce)) hS (fun q _ h => hF q h) hF (fun r u t H1 locs1 ht hvm hw hB hz1 hk1 hS => ?_)
  obtain ⟨rfl, hok⟩ := hw
  have h9 := rep_world hP hD is hC (hM.1 u) hk1 (by have hB9 : va_P (gD G) vwCl (W2 u) t.heap := hB; rw [ht] at hB9; exact hB9)
  rw [hWF u] at h9
  exact kk u hok H1 locs1 ls h9.1 h9.2 hS hl
end JU
/-- a letter of a word -/
def ltr (w i : Nat) : Int32 := (wdL.getD w []).getD i 0
def wLen (w : Nat) : Nat := wdN.getD w 0
theorem ln_sh : ∀ i, i < 11 → (nI (wdN.getD i 0)) >>> ((0 : Int32) &&& 31) = nI (wdN.getD i 0) := by decide +kernel
theorem wLen_8 : ∀ i, i < 11 → wLen i ≤ 8 ∧ 0 < wLen i := by decide +kernel
theorem ch_c : ∀ i, i < 11 → ∀ k, k < wLen i → ((ltr i k &&& 255).toUInt32 % 65536).toInt32 = ltr i k := by decide +kernel
theorem ch_n : ∀ i, i < 11 → ∀ k, k < wLen i → (ltr i k).toUInt32.toUInt16.toUInt32.toInt32 = ltr i k := by decide +kernel
section JV
variable (l : Launch) (G : pG)
set_option maxRecDepth 100000 in
set_option maxHeartbeats 4000000 in
theorem c_J0_coder (i : Nat) (hi : i < 11) : KI l G yJ0_coder_7d493 wsJ0_coder_7d493 ({ frames := 0, cells := 0, slots := 0, locals := 0 } : Room) [.ref (gK G i)] ([] : va_W) (S := Unit) (fun _ => True) (fun _ => 0) (fun _ => ([] : va_W)) := by
  refine ki_of [(0, .ref (gK G i))] (own := RJ0) (cc := cJ0_coder_7d493) (nL := 1) (by decide +kernel) rfl rfl (Nat.le_of_ble_eq_true rfl) rfl (fun _ => rfl) (fun K cx fin => ?_)
  refine j_gets 0 cx cx.e.2.2.1 (List.mem_of_getElem? (i := 1) rfl) rfl dJ0_coder_7d493_0 ?_
  refine j_if_eq_F 3 cx 13 dJ0_coder_7d493_3 (by decide) (by decide) ?_
  refine j_aload_n 6 cx 0 dJ0_coder_7d493_6 rfl ?_
  refine j_getO 7 cx (cx.e.2.2.2.2.1.1 i hi).2.1 (List.mem_of_getElem? (i := 2) rfl) rfl dJ0_coder_7d493_7 ?_
  refine j_goto 10 cx 14 dJ0_coder_7d493_10 (by decide) ?_
  exact fin () _ _ _ _ dJ0_coder_7d493_14 rfl rfl rfl trivial
set_option maxRecDepth 100000 in
set_option maxHeartbeats 4000000 in
theorem c_J0_isLatin1 (i : Nat) (hi : i < 11) : KI l G yJ0_isLatin1_aae02 wsJ0_isLatin1_aae02 ({ frames := 0, cells := 0, slots := 0, locals := 0 } : Room) [.ref (gK G i)] ([] : va_W) (S := Unit) (fun _ => True) (fun _ => 1) (fun _ => ([] : va_W)) := by
  refine ki_of [(0, .ref (gK G i))] (own := RJ0) (cc := cJ0_isLatin1_aae02) (nL := 1) (by decide +kernel) rfl rfl (Nat.le_of_ble_eq_true rfl) rfl (fun _ => rfl) (fun K cx fin => ?_)
  refine j_gets 0 cx cx.e.2.2.1 (List.mem_of_getElem? (i := 1) rfl) rfl dJ0_isLatin1_aae02_0 ?_
  refine j_if_eq_F 3 cx 17 dJ0_isLatin1_aae02_3 (by decide) (by decide) ?_
  refine j_aload_n 6 cx 0 dJ0_isLatin1_aae02_6 rfl ?_
  refine j_getO 7 cx (cx.e.2.2.2.2.1.1 i hi).2.1 (List.mem_of_getElem? (i := 2) rfl) rfl dJ0_isLatin1_aae02_7 ?_
  refine j_if_ne_F 10 cx 17 dJ0_isLatin1_aae02_10 (by decide) rfl ?_
  refine j_iconst 13 cx 1 dJ0_isLatin1_aae02_13 (by decide) ?_
  refine j_goto 14 cx 18 dJ0_isLatin1_aae02_14 (by decide) ?_
  exact fin () _ _ _ _ dJ0_isLatin1_aae02_18 rfl rfl rfl trivial
set_option maxRecDepth 100000 in
set_option maxHeartbeats 4000000 in
theorem c_J0_length (i : Nat) (hi : i < 11) : KI l G yJ0_length_8abf5 wsJ0_length_8abf5 ({ frames := 1, cells := 0, slots := 0, locals := 20 } : Room) [.ref (gK G i)] ([] : va_W) (S := Unit) (fun _ => True) (fun _ => nI (wLen i)) (fun _ => ([] : va_W)) := by
  refine ki_of [(0, .ref (gK G i))] (own := RJ0) (cc := cJ0_length_8abf5) (nL := 1) (by decide +kernel) rfl rfl (Nat.le_of_ble_eq_true rfl) rfl (fun _ => rfl) (fun K cx fin => ?_)
  refine j_aload_n 0 cx 0 dJ0_length_8abf5_0 rfl ?_
  refine j_getO 1 cx (cx.e.2.2.2.2.1.1 i hi).2.2.1 (List.mem_of_getElem? (i := 1) rfl) rfl dJ0_length_8abf5_1 ?_
  refine j_tlen 4 cx (cx.e.2.2.2.2.1.1 i hi).2.2.2 dJ0_length_8abf5_4 ?_
  refine j_aload_n 5 cx 0 dJ0_length_8abf5_5 rfl ?_
  refine j_callO_i 6 cx 0 [] [] (fun _ => ([] : va_W)) (c_J0_coder (kl K) G i hi) gJ0_length_8abf5_J0_coder_7d493 rfl rfl rfl ⟨rfl, by decide, by decide, rfl⟩ ⟨Nat.le_of_ble_eq_true rfl, Nat.le_of_ble_eq_true rfl⟩ ⟨Nat.zero_le _, Nat.zero_le _⟩ rfl (by decide) i hi rfl rfl rfl rfl (Nat.le_of_ble_eq_true rfl) dJ0_length_8abf5_6 (fun _ => rfl) (fun zu zk => ?_)
  refine j_ishr 9 cx dJ0_length_8abf5_9 ?_
  exact fin () _ _ _ _ dJ0_length_8abf5_10 rfl (ln_sh i hi) rfl trivial
set_option maxRecDepth 100000 in
set_option maxHeartbeats 4000000 in
theorem c_J3_check_n (k N : Nat) (h : k < N) (hN : N < 1000) : KI l G yJ3_checkIndex_8e157 wsJ3_checkIndex_8e157 ({ frames := 0, cells := 0, slots := 0, locals := 0 } : Room) [.int (nI k), .int (nI N), .null] ([] : va_W) (S := Unit) (fun _ => True) (fun _ => nI k) (fun _ => ([] : va_W)) := by
  refine ki_of [(0, .int (nI k)), (1, .int (nI N)), (2, .null)] (own := RJ3) (cc := cJ3_checkIndex_8e157) (nL := 3) (by decide +kernel) rfl rfl (Nat.le_of_ble_eq_true rfl) rfl (fun _ => rfl) (fun K cx fin => ?_)
  refine j_iload_n 0 cx 0 dJ3_checkIndex_8e157_0 rfl ?_
  refine j_if_lt_F 1 cx 9 dJ3_checkIndex_8e157_1 (by decide) (nI_pos (by omega)) ?_
  refine j_iload_n 4 cx 0 dJ3_checkIndex_8e157_4 rfl ?_
  refine j_iload_n 5 cx 1 dJ3_checkIndex_8e157_5 rfl ?_
  refine j_icmp_lt_T 6 cx 16 dJ3_checkIndex_8e157_6 (by decide) (nI_lt h (by omega)) ?_
  refine j_iload_n 16 cx 0 dJ3_checkIndex_8e157_16 rfl ?_
  exact fin () _ _ _ _ dJ3_checkIndex_8e157_17 rfl rfl rfl trivial
set_option maxRecDepth 100000 in
set_option maxHeartbeats 4000000 in
theorem c_J3_check_r (k N t : Nat) (h : k < N) (hN : N < 1000) : KI l G yJ3_checkIndex_8e157 wsJ3_checkIndex_8e157 ({ frames := 0, cells := 0, slots := 0, locals := 0 } : Room) [.int (nI k), .int (nI N), .ref t] ([] : va_W) (S := Unit) (fun _ => True) (fun _ => nI k) (fun _ => ([] : va_W)) := by
  refine ki_of [(0, .int (nI k)), (1, .int (nI N)), (2, .ref t)] (own := RJ3) (cc := cJ3_checkIndex_8e157) (nL := 3) (by decide +kernel) rfl rfl (Nat.le_of_ble_eq_true rfl) rfl (fun _ => rfl) (fun K cx fin => ?_)
  refine j_iload_n 0 cx 0 dJ3_checkIndex_8e157_0 rfl ?_
  refine j_if_lt_F 1 cx 9 dJ3_checkIndex_8e157_1 (by decide) (nI_pos (by omega)) ?_
  refine j_iload_n 4 cx 0 dJ3_checkIndex_8e157_4 rfl ?_
  refine j_iload_n 5 cx 1 dJ3_checkIndex_8e157_5 rfl ?_
  refine j_icmp_lt_T 6 cx 16 dJ3_checkIndex_8e157_6 (by decide) (nI_lt h (by omega)) ?_
  refine j_iload_n 16 cx 0 dJ3_checkIndex_8e157_16 rfl ?_
  exact fin () _ _ _ _ dJ3_checkIndex_8e157_17 rfl rfl rfl trivial
set_option maxRecDepth 100000 in
set_option maxHeartbeats 4000000 in
theorem c_J0_check (k N : Nat) (h : k < N) (hN : N < 1000) : KV l G yJ0_checkIndex_df160 wsJ0_checkIndex_df160 ({ frames := 1, cells := 0, slots := 0, locals := 22 } : Room) [.int (nI k), .int (nI N)] ([] : va_W) (S := Unit) (fun _ => True) (fun _ => ([] : va_W)) := by
  refine kv_of [(0, .int (nI k)), (1, .int (nI N))] (own := RJ0) (cc := cJ0_checkIndex_df160) (nL := 2) (by decide +kernel) rfl rfl (Nat.le_of_ble_eq_true rfl) rfl (fun _ => rfl) (fun K cx fin => ?_)
  refine j_iload_n 0 cx 0 dJ0_checkIndex_df160_0 rfl ?_
  refine j_iload_n 1 cx 1 dJ0_checkIndex_df160_1 rfl ?_
  rcases cx.e.2.2.2.1 with hz | ⟨t, hz⟩
  · refine j_gets 2 cx hz (List.mem_of_getElem? (i := 1) rfl) rfl dJ0_checkIndex_df160_2 ?_
    refine j_callS_i 5 cx 3 [] [.int (nI k), .int (nI N), .null] (fun _ => ([] : va_W)) (c_J3_check_n (kl K) G k N h hN) gJ0_checkIndex_df160_J3_checkIndex_8e157 rfl rfl rfl ⟨by decide, by decide, rfl⟩ ⟨Nat.le_of_ble_eq_true rfl, Nat.le_of_ble_eq_true rfl⟩ ⟨Nat.zero_le _, Nat.zero_le _⟩ rfl (by decide) rfl rfl (Nat.le_of_ble_eq_true rfl) dJ0_checkIndex_df160_5 (fun _ => rfl) (fun zu zk => ?_)
    refine j_pop 8 cx dJ0_checkIndex_df160_8 rfl ?_
    exact fin () _ _ _ dJ0_checkIndex_df160_9 rfl trivial
  · refine j_gets 2 cx hz (List.mem_of_getElem? (i := 1) rfl) rfl dJ0_checkIndex_df160_2 ?_
    refine j_callS_i 5 cx 3 [] [.int (nI k), .int (nI N), .ref t] (fun _ => ([] : va_W)) (c_J3_check_r (kl K) G k N t h hN) gJ0_checkIndex_df160_J3_checkIndex_8e157 rfl rfl rfl ⟨by decide, by decide, rfl⟩ ⟨Nat.le_of_ble_eq_true rfl, Nat.le_of_ble_eq_true rfl⟩ ⟨Nat.zero_le _, Nat.zero_le _⟩ rfl (by decide) rfl rfl (Nat.le_of_ble_eq_true rfl) dJ0_checkIndex_df160_5 (fun _ => rfl) (fun zu zk => ?_)
    refine j_pop 8 cx dJ0_checkIndex_df160_8 rfl ?_
    exact fin () _ _ _ dJ0_checkIndex_df160_9 rfl trivial
set_option maxRecDepth 100000 in
set_option maxHeartbeats 4000000 in
theorem c_J1_charAt (i k : Nat) (hi : i < 11) (hk : k < wLen i) : KI l G yJ1_charAt_3b067 wsJ1_charAt_3b067 ({ frames := 2, cells := 0, slots := 0, locals := 43 } : Room) [.ref (gV G i), .int (nI k)] ([] : va_W) (S := Unit) (fun _ => True) (fun _ => ltr i k) (fun _ => ([] : va_W)) := by
  have h8 := wLen_8 i hi
  refine ki_of [(0, .ref (gV G i)), (1, .int (nI k))] (own := RJ1) (cc := cJ1_charAt_3b067) (nL := 2) (by decide +kernel) rfl rfl (Nat.le_of_ble_eq_true rfl) rfl (fun _ => rfl) (fun K cx fin => ?_)
  refine j_iload_n 0 cx 1 dJ1_charAt_3b067_0 rfl ?_
  refine j_aload_n 1 cx 0 dJ1_charAt_3b067_1 rfl ?_
  refine j_tlen 2 cx (cx.e.2.2.2.2.1.1 i hi).2.2.2 dJ1_charAt_3b067_2 ?_
  refine j_callS_v 3 cx 2 [] [.int (nI k), .int (nI (wLen i))] (fun _ => ([] : va_W)) (c_J0_check (kl K) G k (wLen i) hk (by omega)) gJ1_charAt_3b067_J0_checkIndex_df160 rfl rfl rfl ⟨by decide, by decide, rfl⟩ ⟨Nat.le_of_ble_eq_true rfl, Nat.le_of_ble_eq_true rfl⟩ ⟨Nat.zero_le _, Nat.zero_le _⟩ rfl (by decide) rfl rfl (Nat.le_of_ble_eq_true rfl) dJ1_charAt_3b067_3 (fun _ => rfl) (fun zu zk => ?_)
  refine j_aload_n 6 cx 0 dJ1_charAt_3b067_6 rfl ?_
  refine j_iload_n 7 cx 1 dJ1_charAt_3b067_7 rfl ?_
  refine j_baT 8 cx k (cx.e.2.2.2.2.1.1 i hi).2.2.2 rfl hk (by show wLen i < _; omega) (v := .int (ltr i k)) rfl dJ1_charAt_3b067_8 ?_
  refine j_sipush 9 cx 255 dJ1_charAt_3b067_9 (by decide) ?_
  refine j_iand 12 cx dJ1_charAt_3b067_12 ?_
  refine j_i2c 13 cx dJ1_charAt_3b067_13 ?_
  refine j_top (ltr i k) (ch_c i hi k hk) ?_
  exact fin () _ _ _ _ dJ1_charAt_3b067_14 (congrArg Value.int (ch_n i hi k hk)) rfl rfl trivial
set_option maxRecDepth 100000 in
set_option maxHeartbeats 4000000 in
theorem c_J0_charAt (i k : Nat) (hi : i < 11) (hk : k < wLen i) : KI l G yJ0_charAt_5068e wsJ0_charAt_5068e ({ frames := 4, cells := 0, slots := 0, locals := 85 } : Room) [.ref (gK G i), .int (nI k)] ([] : va_W) (S := Unit) (fun _ => True) (fun _ => ltr i k) (fun _ => ([] : va_W)) := by
  refine ki_of [(0, .ref (gK G i)), (1, .int (nI k))] (own := RJ0) (cc := cJ0_charAt_5068e) (nL := 2) (by decide +kernel) rfl rfl (Nat.le_of_ble_eq_true rfl) rfl (fun _ => rfl) (fun K cx fin => ?_)
  refine j_aload_n 0 cx 0 dJ0_charAt_5068e_0 rfl ?_
  refine j_callO_i 1 cx 0 [] [] (fun _ => ([] : va_W)) (c_J0_isLatin1 (kl K) G i hi) gJ0_charAt_5068e_J0_isLatin1_aae02 rfl rfl rfl ⟨rfl, by decide, by decide, rfl⟩ ⟨Nat.le_of_ble_eq_true rfl, Nat.le_of_ble_eq_true rfl⟩ ⟨Nat.zero_le _, Nat.zero_le _⟩ rfl (by decide) i hi rfl rfl rfl rfl (Nat.le_of_ble_eq_true rfl) dJ0_charAt_5068e_1 (fun _ => rfl) (fun zu zk => ?_)
  refine j_if_eq_F 4 cx 16 dJ0_charAt_5068e_4 (by decide) (by decide) ?_
  refine j_aload_n 7 cx 0 dJ0_charAt_5068e_7 rfl ?_
  refine j_getO 8 cx (cx.e.2.2.2.2.1.1 i hi).2.2.1 (List.mem_of_getElem? (i := 1) rfl) rfl dJ0_charAt_5068e_8 ?_
  refine j_iload_n 11 cx 1 dJ0_charAt_5068e_11 rfl ?_
  refine j_callS_i 12 cx 2 [] [.ref (gV G i), .int (nI k)] (fun _ => ([] : va_W)) (c_J1_charAt (kl K) G i k hi hk) gJ0_charAt_5068e_J1_charAt_3b067 rfl rfl rfl ⟨by decide, by decide, rfl⟩ ⟨Nat.le_of_ble_eq_true rfl, Nat.le_of_ble_eq_true rfl⟩ ⟨Nat.zero_le _, Nat.zero_le _⟩ rfl (by decide) rfl rfl (Nat.le_of_ble_eq_true rfl) dJ0_charAt_5068e_12 (fun _ => rfl) (fun zu2 zk2 => ?_)
  exact fin () _ _ _ _ dJ0_charAt_5068e_15 (congrArg Value.int (ch_n i hi k hk)) rfl rfl trivial
end JV
