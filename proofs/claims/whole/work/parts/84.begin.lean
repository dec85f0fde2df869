/-! the law: from its entry -/
def R_law : String := "OthersShareLaw"
def lw_P (b : Addr) (xs : List Int32) (args : Array Value) (s : State) : Prop := args = #[.ref b] ∧ s.IntsAt b xs ∧ xs.length ≤ 3072 ∧ (Jvm.Cond.and given_1 narrow_1).before args s = true
def lw_Q (_ : Array Value) (s : State) (o : Outcome) (t : State) : Prop := o = .returned (some (.int 1)) ∧ Framed s o t [] 600000 7302250
def lw_Z (below : List Frame) (a : Array Value) (s : State) : State → Prop := fun t => ∃ o, t.status = .running ∧ Ended t below o ∧ lw_Q a s o t
/-- the law's own end, with 1 on the stack, nothing written that was there before, its room as the claim has it -/
theorem lw_ret {p : Program} {l : Launch} {e : Env} {s : State} {m : MethodId} {below : List Frame} {meth : Method} {c : Code} {b : Nat} (hx : p.tables.exec = Jvm.exec) (hb : c.code = code) (hr : meth.sig.returnType = ret) (hlocks : meth.locks = false) {pc : Nat} {H : Heap} {ls : Array Slot} (hdg : decode code pc = .ok (.ireturn, 1)) : W p l e room_1 s m #[Value.ref b] below meth c H [] 600000 7302250 (lw_Z below #[Value.ref b] s) (F0 m pc ls [.int 1]) := by
  intro T hT X
  obtain ⟨fs, hret, hrun, hended, hW, hframe⟩ := X.leave (v := some (.int 1)) (hlocks := hlocks) (fun h => by rw [hr] at h; cases h)
  have hmeth' : T.vm.method? m = some meth := X.method'
  refine ⟨T.setFrames fs, ?_, .returned (some (.int 1)), hrun, hended, rfl, ⟨_, rfl⟩, hW, hframe⟩
  jvm_step X.here [X.here.top, hx, hb, hdg, hmeth', hr, ret, narrow_b1]
  (try refine ⟨rfl, ?_⟩); (try refine ⟨rfl, ?_⟩)
  first | (intro acts; rw [hret _ acts rfl rfl rfl]) | rw [hret _ _ rfl rfl rfl]
  exact Steps.refl _
/-- what holds at the law's entry: the machine, the code, the tables' words (any of lw_tbl by 'hts w (by decide +kernel)'), the script of L ints xs at the cell b, what the Statement gives of the start (any of its parts by flat_of_before) -/
def lw_At (p : Program) (s : State) (m : MethodId) (meth : Method) (c : Code) (b L : Nat) (xs : Nat → Int32) : Prop :=
  p.tables.exec = Jvm.exec ∧ c.code = code ∧ meth.sig.returnType = ret ∧ c.maxLocals = 4 ∧ s.vm.findClass R_law = some m.cls ∧ (∀ w ∈ lw_tbl, w.before #[Value.ref b] s = true) ∧ va_X b L xs s s.heap ∧ b < s.heap.size ∧ meth.locks = false ∧ (Jvm.Cond.and given_1 narrow_1).before #[Value.ref b] s = true
theorem mm_nu0 : mm nu0 = (upd (upd (fun _ => 0) 9 1) 10 1) := by
  funext j
  by_cases h : j < 51
  · exact (show ∀ j, j < 51 → mm nu0 j = (upd (upd (fun _ => 0) 9 1) 10 1 : Nat → Int32) j by decide +kernel) j h
  · unfold mm nu0 upd
    rw [if_neg (by omega), if_neg (by omega), if_neg (by omega), if_neg (by omega), if_neg (by omega)]
theorem mm_z0 : mm (fun _ _ => 0) = (fun _ => 0) := by
  funext j
  unfold mm
  repeat' split
  all_goals rfl
theorem zN_z0 : zN (fun _ => 0) = (fun _ => 0) := funext fun _ => nI_0
theorem cm_z0 : cm (fun _ _ => 0) = (fun _ => 0) := rfl
theorem bt_z0 : bt 0 = 0 := by decide
theorem wg0 (G : pG) (ox om : Nat) (ax am qh qt qk sh nh : Nat → Nat) : (wXO ox ax false ++ (wN G (ax 1) qh nu0 ++ (wN G (ax 2) qt nu0 ++ (wN G (ax 3) qk nu0 ++ (wTP ax 0 ++ ([(ax 8, .inl (gB G, 120, .inl (fun _ => 0)))] ++ (wRD ax 0 0 0 0 ++ ([(ax 6, .inl (gS G, 4, .inr (.inr (.inr (.inr (fun j => some (sh j)))))))] ++ (wSH (sh 0) (nh 0) 0 0 ++ ([(nh 0, .inl (gJ G, 40, .inr (.inl (fun _ => 0))))] ++ (wSH (sh 1) (nh 1) 0 0 ++ ([(nh 1, .inl (gJ G, 40, .inr (.inl (fun _ => 0))))] ++ (wSH (sh 2) (nh 2) 0 0 ++ ([(nh 2, .inl (gJ G, 40, .inr (.inl (fun _ => 0))))] ++ (wSH (sh 3) (nh 3) 0 0 ++ ([(nh 3, .inl (gJ G, 40, .inr (.inl (fun _ => 0))))] ++ ([(ax 7, .inl (gI G, 7, .inl (fun _ => 0)))]))))))))))))))))) ++ (wMO om am false 0 0 0 0 0 0 false ++ ([(am 0, .inl (gI G, 51, .inl (upd (upd (fun _ => 0) 9 1) 10 1)))] ++ ([(am 1, .inl (gI G, 51, .inl (fun _ => 0)))] ++ ([(am 2, .inl (gI G, 51, .inl (fun _ => 0)))] ++ ([(am 3, .inl (gI G, 7, .inl (fun _ => 0)))] ++ ([(am 4, .inl (gI G, 120, .inl (fun _ => 0)))] ++ ([(am 5, .inl (gI G, 4, .inl (fun _ => 0)))] ++ ([(am 6, .inl (gI G, 4, .inl (fun _ => 0)))] ++ [(am 7, .inl (gJ G, 160, .inr (.inl (fun _ => 0))))])))))))) = WG G ox om ax am qh qt qk sh nh false nu0 nu0 nu0 (nI 0) (fun _ => 0) 0 0 0 0 (fun _ => 0) (fun _ => 0) (fun _ _ => 0) (fun _ => 0) false 0 (nI 0) 0 0 0 0 false nu0 (fun _ _ => 0) (fun _ _ => 0) (fun _ => 0) (fun _ => 0) (fun _ => 0) (fun _ => 0) (fun _ _ => 0) := by
  simp only [WG, mm_nu0, mm_z0, zN_z0, cm_z0, bt_z0, nI_0, List.cons_append, List.nil_append, List.append_assoc]
abbrev S0 : St := (nu0, nu0, false, fun _ => 0, fun _ => 0, 0, fun _ => 0, fun _ => 0, fun _ _ => 0)
abbrev kL (p : Program) (l : Launch) (e : Env) (s : State) (m : MethodId) (b : Nat) (below : List Frame) (meth : Method) (c : Code) : pK := (p, l, e, room_1, s, m, #[Value.ref b], below, meth, c, lw_Z below #[Value.ref b] s, (fun q => s.heap.size ≤ q), 4)
theorem InN_nu0 : InN nu0 := by
  have h99 : 0 ≤ (0 : Int32).toInt ∧ (0 : Int32).toInt ≤ 99 := by decide
  have h9 : 0 ≤ (0 : Int32).toInt ∧ (0 : Int32).toInt ≤ 9999 := by decide
  exact ⟨⟨⟨0, by decide, nI_0.symm⟩, ⟨0, by decide, nI_0.symm⟩, h99, h9, fun _ => h9, fun _ => h99⟩, by decide +kernel, fun _ => h99⟩
theorem okT_z : okT (fun _ => 0) := fun _ => ⟨0, by decide, nI_0.symm⟩
theorem InS0 : InS S0 := by
  have h : InN nu0 := InN_nu0
  exact ⟨h, h, okT_z, Nat.zero_le _, fun _ => Nat.zero_le _⟩
set_option maxRecDepth 100000 in
set_option maxHeartbeats 4000000 in
theorem law_walk {G : pG} {K : pK} (cx : CX G K cL_law RL wsL_law 4 room_1) (hxE : xE (ks K)) {b L : Nat} {xs : Nat → Int32} (hX : va_X b L xs (ks K) (ks K).heap) (hbl : b < (ks K).heap.size) (hbA : ¬ kA K b) (hL : L ≤ 3072) (hend : ∀ (ws : va_W) (lv : List (Nat × Value)), JJ G K 44 953 ws lv 1178 [.int 1]) : JJ G K 0 0 [] [(0, .ref b)] 0 [] := by
  refine j_new 0 cx [.null, .null, .null, .int 0, .null, .null, .null, .null] tyX5 (C := RX5) (T := TX5) (N := 8) (ci := 4) inlX5 tyX5_ok (List.mem_of_getElem? (i := 0) rfl) (List.mem_of_getElem? (i := 1) rfl) (List.mem_of_getElem? (i := 2) rfl) rfl (fun j hj => by rcases (show j = 0 ∨ j = 1 ∨ j = 2 ∨ j = 3 ∨ j = 4 ∨ j = 5 ∨ j = 6 ∨ j = 7 by omega) with rfl | rfl | rfl | rfl | rfl | rfl | rfl | rfl <;> rfl) (Nat.le_of_ble_eq_true rfl) (Nat.le_of_ble_eq_true rfl) dL_law_0 (fun ox => ?_)
  refine j_ws [(ox, .inr (4, [.null, .null, .null, .int 0, .null, .null, .null, .null]))] rfl ?_
  refine j_dup 3 cx dL_law_3 rfl ?_
  refine j_ctor 4 cx 0 [0] [] (([] : va_W)) [] (c_X5_init (kl K) G ox) gL_law_X5_init rfl rfl rfl (List.mem_of_getElem? (i := 2) rfl) (List.mem_of_getElem? (i := 7) rfl) (List.mem_of_getElem? (i := 8) rfl) rfl ⟨by decide, by decide, rfl⟩ ⟨Nat.le_of_ble_eq_true rfl, Nat.le_of_ble_eq_true rfl⟩ ⟨Nat.le_of_ble_eq_true rfl, Nat.le_of_ble_eq_true rfl⟩ okE_x hxE rfl (by decide) rfl (by decide) (by decide) rfl rfl (Nat.le_of_ble_eq_true rfl) dL_law_4 (fun u _ => ?_)
  obtain ⟨ax, qh, qt, qk, sh, nh⟩ := u
  refine j_ws (wXO ox ax false ++ (wN G (ax 1) qh nu0 ++ (wN G (ax 2) qt nu0 ++ (wN G (ax 3) qk nu0 ++ (wTP ax 0 ++ ([(ax 8, .inl (gB G, 120, .inl (fun _ => 0)))] ++ (wRD ax 0 0 0 0 ++ ([(ax 6, .inl (gS G, 4, .inr (.inr (.inr (.inr (fun j => some (sh j)))))))] ++ (wSH (sh 0) (nh 0) 0 0 ++ ([(nh 0, .inl (gJ G, 40, .inr (.inl (fun _ => 0))))] ++ (wSH (sh 1) (nh 1) 0 0 ++ ([(nh 1, .inl (gJ G, 40, .inr (.inl (fun _ => 0))))] ++ (wSH (sh 2) (nh 2) 0 0 ++ ([(nh 2, .inl (gJ G, 40, .inr (.inl (fun _ => 0))))] ++ (wSH (sh 3) (nh 3) 0 0 ++ ([(nh 3, .inl (gJ G, 40, .inr (.inl (fun _ => 0))))] ++ ([(ax 7, .inl (gI G, 7, .inl (fun _ => 0)))]))))))))))))))))) rfl ?_
  refine j_astore_n 7 cx [(1, .ref ox), (0, .ref b)] dL_law_7 (by decide) rfl ?_
  refine j_new 8 cx [.null, .null, .null, .int 0, .null, .int 0, .null, .int 0, .int 0, .int 0, .int 0, .int 0, .int 0, .null, .null, .null] tyX6 (C := RX6) (T := TX6) (N := 16) (ci := 5) inlX6 tyX6_ok (List.mem_of_getElem? (i := 3) rfl) (List.mem_of_getElem? (i := 4) rfl) (List.mem_of_getElem? (i := 5) rfl) rfl (fun j hj => by rcases (show j = 0 ∨ j = 1 ∨ j = 2 ∨ j = 3 ∨ j = 4 ∨ j = 5 ∨ j = 6 ∨ j = 7 ∨ j = 8 ∨ j = 9 ∨ j = 10 ∨ j = 11 ∨ j = 12 ∨ j = 13 ∨ j = 14 ∨ j = 15 by omega) with rfl | rfl | rfl | rfl | rfl | rfl | rfl | rfl | rfl | rfl | rfl | rfl | rfl | rfl | rfl | rfl <;> rfl) (Nat.le_of_ble_eq_true rfl) (Nat.le_of_ble_eq_true rfl) dL_law_8 (fun om => ?_)
  refine j_dup 11 cx dL_law_11 rfl ?_
  refine j_ctor 12 cx 0 [35] [0, 1, 2, 3, 4, 5, 6, 7, 8, 9, 10, 11, 12, 13, 14, 15, 16, 17, 18, 19, 20, 21, 22, 23, 24, 25, 26, 27, 28, 29, 30, 31, 32, 33, 34] (wXO ox ax false ++ (wN G (ax 1) qh nu0 ++ (wN G (ax 2) qt nu0 ++ (wN G (ax 3) qk nu0 ++ (wTP ax 0 ++ ([(ax 8, .inl (gB G, 120, .inl (fun _ => 0)))] ++ (wRD ax 0 0 0 0 ++ ([(ax 6, .inl (gS G, 4, .inr (.inr (.inr (.inr (fun j => some (sh j)))))))] ++ (wSH (sh 0) (nh 0) 0 0 ++ ([(nh 0, .inl (gJ G, 40, .inr (.inl (fun _ => 0))))] ++ (wSH (sh 1) (nh 1) 0 0 ++ ([(nh 1, .inl (gJ G, 40, .inr (.inl (fun _ => 0))))] ++ (wSH (sh 2) (nh 2) 0 0 ++ ([(nh 2, .inl (gJ G, 40, .inr (.inl (fun _ => 0))))] ++ (wSH (sh 3) (nh 3) 0 0 ++ ([(nh 3, .inl (gJ G, 40, .inr (.inl (fun _ => 0))))] ++ ([(ax 7, .inl (gI G, 7, .inl (fun _ => 0)))]))))))))))))))))) [] (c_X6_init (kl K) G om) gL_law_X6_init rfl rfl rfl (List.mem_of_getElem? (i := 5) rfl) (List.mem_of_getElem? (i := 59) rfl) (List.mem_of_getElem? (i := 60) rfl) rfl ⟨by decide, by decide, rfl⟩ ⟨Nat.le_of_ble_eq_true rfl, Nat.le_of_ble_eq_true rfl⟩ ⟨Nat.le_of_ble_eq_true rfl, Nat.le_of_ble_eq_true rfl⟩ okE_no trivial rfl (by decide) rfl (by decide) (by decide) rfl rfl (Nat.le_of_ble_eq_true rfl) dL_law_12 (fun am _ => ?_)
  refine j_astore_n 15 cx [(2, .ref om), (1, .ref ox), (0, .ref b)] dL_law_15 (by decide) rfl ?_
  refine j_iconst 16 cx (nI 0) dL_law_16 (by decide) ?_
  refine j_istore_n 17 cx [(3, .int (nI (0))), (2, .ref om), (1, .ref ox), (0, .ref b)] dL_law_17 (by decide) rfl ?_
  exact j_ws _ (wg0 G ox om ax am qh qt qk sh nh) (law_loop cx hX hbl hbA hL ox om ax am qh qt qk sh nh hend L 0 S0 nu0 (fun _ _ => 0) (fun _ _ => 0) 0 0 0 0 0 0 0 0 0 false (by omega) (Nat.zero_le _) InS0 (fun q => absurd (show false = true from q) (by decide)))
set_option maxHeartbeats 4000000 in
theorem whole_start {p : Program} {e : Env} {s : State} {m : MethodId} {below : List Frame} {meth : Method} {c : Code} (l : Launch) (hflags : l.flags = flags0) {b L : Nat} {xs : Nat → Int32} (hL : L ≤ 3072) (C0 : lw_At p s m meth c b L xs) : W p l e room_1 s m #[Value.ref b] below meth c s.heap [] 0 0 (lw_Z below #[Value.ref b] s) (entryFrame m ([Value.ref b] : List Value).toArray 4) := by
  obtain ⟨hx, hb, hr, hml, hown, hts, hX, hbl, hlocks, hgv⟩ := C0
  obtain ⟨n, a, v, hE⟩ := gE_start hts hgv
  obtain ⟨D, cI, cJ, cB, cS, hK⟩ := K_start hts
  have cx : CX (D, (cI, cJ, cB, cS), n, a, v) (kL p l e s m b below meth c) cL_law RL wsL_law 4 room_1 := ⟨hx, hb, fun w h => hts w (wsL_law_in w h), hown, hK, fun q h => h, hml, rfl, rfl, hE D (cI, cJ, cB, cS), hlocks⟩
  have hl := lv_entry ([.ref b]) (n := 4) (Nat.le_of_ble_eq_true rfl)
  rw [lg_entry_eq]
  have hl : lv_has _ 4 [(0, .ref b)] := hl
  exact law_walk cx (xE_start hts) hX hbl (Nat.not_le.mpr hbl) hL (fun ws lv H locs ls hP hD hS hl => va_forget (fun q hq => hS.2.2 q hq) (W.widen (k := 600000) (n := 7302250) (Nat.le_of_ble_eq_true rfl) (Nat.le_of_ble_eq_true rfl) (lw_ret hx hb hr hlocks dL_law_1178))) s.heap [] _ (fun k q h => by simp at h) ⟨fun i j p q h => by simp at h, fun k q h => by simp at h⟩ va_S.rf hl
