/-! Constructors: methods that make cells. -/
def KPx (G : pG) (W1 : va_W) (sz : Nat) (E : State → Prop) (U : State) : Prop := KPre G W1 sz U ∧ E U
def okE (E : State → Prop) : Prop := (∀ (U : State) (g : JFrame) (mk : MethodId) (a : Array Value), E U → E (U.calling g mk a)) ∧ ∀ s U : State, s.WarmedH U.vm → E s → E U
abbrev noE : State → Prop := fun _ => True
theorem okE_no : okE noE := ⟨fun _ _ _ _ _ => trivial, fun _ _ _ _ => trivial⟩
theorem KPx.blind {G : pG} {W1 : va_W} {sz : Nat} {E : State → Prop} (hE : okE E) {av : List Value} : FrameBlind (va_Pc av (KPx G W1 sz E)) := by
  intro a U g mk q
  obtain ⟨q0, ⟨q1, qP, qK, qD, qE⟩, qX⟩ := q
  exact ⟨q0, ⟨q1, qP, va_K.moved (u := U) (U := U.calling g mk a) (Vm.Alike.refl U.vm) qK, qD, qE.call⟩, hE.1 U g mk a qX⟩
def KN (l : Launch) (G : pG) (y : MethodName) (wy : List Cond) (rm : Room) (av : List Value) (W1 : va_W) (mc ms : Nat) (E : State → Prop) {S : Type} (ok : S → Prop) (W2 : S → va_W) : Prop :=
  ∀ sz, Met l y wy rm (va_Pc av (KPx G W1 sz E)) (va_Qv (fun u => ok u) (fun u t => va_P (gD G) vwCl (W2 u) t.heap ∧ va_D (va_A W1 sz) (W2 u)) (va_A W1 sz)) mc ms (va_A W1 sz)
def RN (G : pG) (K : pK) (cc : ByteArray) (mc ms : Nat) {S : Type} (ok : S → Prop) (W2 : S → va_W) : Prop := ∀ (u : S) (lv : List (Nat × Value)) (pc : Nat) (ws : va_W), decode cc pc = .ok (.return_, 1) → ws = W2 u → ok u → JJ G K mc ms ws lv pc []
theorem kn_of {l : Launch} {G : pG} {y : MethodName} {wy ws' : List Cond} {rm : Room} {av : List Value} {W1 : va_W} {mc ms : Nat} {E : State → Prop} {S : Type} {ok : S → Prop} {W2 : S → va_W} {own : String} {cc : ByteArray} {nL : Nat} (lv0 : List (Nat × Value)) (hy : plainFor y = true) (hw : wy = Cond.code y cc nL none :: ws') (hcl : y.cls = own) (hyn : y.name = "<init>") (hav : (lg_sl av).length ≤ nL) (hlv : lv_args 0 av = lv0)
    (body : ∀ K : pK, CX G K cc own wy nL rm → (kme K).name = "<init>" → E (ks K) → RN G K cc mc ms ok W2 → JJ G K 0 0 W1 lv0 0 []) : KN l G y wy rm av W1 mc ms E ok W2 := by
  intro sz
  refine va_MetF (cc := cc) (maxL := nL) (ret := none) hy hw ?_
  intro p e s m args below meth c s₁ B hml hv
  obtain ⟨rfl, ⟨hsz, hP, hK, hD0, hE⟩, hX⟩ := hv
  have hts := atoms_spec (ws := wy) B.pre
  have hown : s.vm.findClass own = some m.cls := hcl ▸ findClass_of_methodNamed B.named
  have hin : meth.name = "<init>" := (name_of_methodNamed B.named B.method).1.trans hyn
  subst hsz
  have hD := hD0.self (sz := s.heap.size)
  have hl := lv_entry av (n := nL) hav
  rw [lg_entry_eq]
  rw [hlv] at hl
  have cx : CX G (p, l, e, rm, s, m, av.toArray, below, meth, c, MQ below (va_Qv (fun u => ok u) (fun u t => va_P (gD G) vwCl (W2 u) t.heap ∧ va_D (va_A W1 s.heap.size) (W2 u)) (va_A W1 s.heap.size)) av.toArray s mc ms (va_A W1 s.heap.size), va_A W1 s.heap.size, nL) cc own wy nL rm := ⟨B.exec, B.bytes, hts, hown, hK, fun q h => Or.inr h, hml, rfl, rfl, hE, B.notSynchronized⟩
  refine body _ cx hin hX ?_ s.heap [] _ hP hD va_S.rf hl
  · intro u lv pc ws hdg hws hok H locs ls hP hD hS hl
    subst hws
    exact W.vret B.exec B.bytes B.returns (fun t ht hW => ⟨⟨u, rfl, hok, by show va_P (gD G) vwCl (W2 u) t.heap; rw [ht]; exact hP, hD⟩, hS.F ht⟩) hS.2.2 hdg B.notSynchronized
theorem va_K.one {D : va_G} {tys : List (ClassId × FieldType)} {U : State} {c c' : ClassId} {ty : FieldType} {i j : Nat} (h : va_K D vwCl tys U) (hi : tys[i]? = some (c, ty)) {tys' : List (ClassId × FieldType)} (h' : va_K D vwCl tys' U) (hj : tys'[j]? = some (c', ty)) : c' = c := by
  have a := (h.2 i _ hi).2
  have b := (h'.2 j _ hj).2
  unfold va_RA at a b
  cases ty with
  | object C =>
    obtain ⟨_, _, _, _, _, a4⟩ := a
    obtain ⟨_, _, _, _, _, b4⟩ := b
    exact Option.some.inj (b4.symm.trans a4)
  | _ => exact Option.some.inj (Eq.trans (Eq.symm b) a)
section JC
variable {G : pG} {K : pK} {cc : ByteArray} {own : String} {Ts : List Cond} {nL : Nat} {rm : Room} {cells slots : Nat} {ws : va_W} {lv : List (Nat × Value)} {st : List Value}
theorem j_objInit (pc : Nat) (cx : CX G K cc own Ts nL rm) {index a : Nat} (hlk : Cond.methodLink own index Lib.objectInit ∈ Ts) (hin : Cond.instanceMethod Lib.objectInit ∈ Ts) (hcd : Cond.code Lib.objectInit ⟨#[0xb1]⟩ 1 none ∈ Ts) (hdg : decode cc pc = .ok (.invokespecial index, 3)) (hfr : 1 ≤ rm.frames) (hlo : (st.map fun v => v.category).sum + 12 ≤ rm.locals) (kk : JJ G K cells slots ws lv (pc + 3) st) : JJ G K cells slots ws lv pc (.ref a :: st) := by
  intro H locs ls hP hD hS hl
  obtain ⟨c1, c2, c3, c4, c5, c6, c7, c8, c9, c10, c11⟩ := cx
  refine W.objInit (g := F0 (km K) pc ls (.ref a :: st)) c1 c2 c4 (c3 _ hlk) (c3 _ hin) (c3 _ hcd) rfl (by show ls.size = _; rw [c7, hl.1, c8]) rfl hdg (by rw [c9]; exact hfr) (by show 2 * 0 + _ + 12 ≤ _; rw [c9]; omega) ?_
  exact W.eq (g2 := F0 (km K) (pc + 3) ls st) rfl (kk H locs ls hP hD hS hl)
theorem j_new (pc : Nat) (cx : CX G K cc own Ts nL rm) {C : String} {T : u_T} {N ci index : Nat} (fs : List Value) (ty : Nat → FieldType) (hin : ∀ w ∈ u_ws C T N, w ∈ Ts) (hty : ∀ k, k < N → parseFieldDescriptor (T k).2.2.1 = some (ty k)) (hcl : Cond.classLink own index C ∈ Ts) (hinst : Cond.instantiable C N ∈ Ts) (hini : Cond.initialized C ∈ Ts) (hc : vwCl[ci]? = some (C, T, N)) (hfs : ∀ j, j < N → defaultValue (ty j) = vp_V fs j) (hce : cells + 1 ≤ rm.cells) (hsl : slots + N ≤ rm.slots) (hdg : decode cc pc = .ok (.new index, 3))
    (kk : ∀ q : Nat, JJ G K (cells + 1) (slots + N) (ws ++ [(q, .inr (ci, fs))]) lv (pc + 3) (.ref q :: st)) : JJ G K cells slots ws lv pc st := by
  intro H locs ls hP hD hS hl
  obtain ⟨c1, c2, c3, c4, c5, c6, c7, c8, c9, c10, c11⟩ := cx
  exact va_new c1 c2 c3 hin ty hty c4 (c3 _ hcl) (c3 _ hinst) (c3 _ hini) c5 hP hD hS c6 hc hfs (by rw [c9]; exact hce) (by rw [c9]; exact hsl) hdg (fun q H1 hP hD hS => kk q H1 locs ls hP hD hS hl)
theorem j_newaI (pc : Nat) (cx : CX G K cc own Ts nL rm) (N : Nat) {x : Int32} (harr : Cond.arrayClass .int ∈ Ts) (hx : x = nI N) (hN : N < 1000) (hce : cells + 1 ≤ rm.cells) (hsl : slots + N ≤ rm.slots) (hdg : decode cc pc = .ok (.newarray .int, 2))
    (kk : ∀ q : Nat, JJ G K (cells + 1) (slots + N) (ws ++ [(q, .inl (gI G, N, .inl (fun _ => 0)))]) lv (pc + 2) (.ref q :: st)) : JJ G K cells slots ws lv pc (.int x :: st) := by
  subst hx
  intro H locs ls hP hD hS hl
  obtain ⟨c1, c2, c3, c4, c5, c6, c7, c8, c9, c10, c11⟩ := cx
  refine va_newa (atype := .int) (ty := .int) (N' := N) (a0 := (N, .inl (fun _ => 0))) c1 c2 (c3 _ harr) rfl c5 hP hD hS c6 (fun _ => rfl) (nI_pos (by omega)) (nI_clamp (by omega)) (by show N * 4 ≤ _; omega) (by rw [c9]; exact hce) (by rw [c9]; exact hsl) hdg (fun q cA H1 hK hP hD hS => ?_)
  have e : cA = gI G := va_K.one (i := 0) (j := 4) c5 rfl hK rfl
  subst e
  exact kk q H1 locs ls hP hD hS hl
theorem j_newaJ (pc : Nat) (cx : CX G K cc own Ts nL rm) (N : Nat) {x : Int32} (harr : Cond.arrayClass .long ∈ Ts) (hx : x = nI N) (hN : N < 1000) (hce : cells + 1 ≤ rm.cells) (hsl : slots + N ≤ rm.slots) (hdg : decode cc pc = .ok (.newarray .long, 2))
    (kk : ∀ q : Nat, JJ G K (cells + 1) (slots + N) (ws ++ [(q, .inl (gJ G, N, .inr (.inl (fun _ => 0))))]) lv (pc + 2) (.ref q :: st)) : JJ G K cells slots ws lv pc (.int x :: st) := by
  subst hx
  intro H locs ls hP hD hS hl
  obtain ⟨c1, c2, c3, c4, c5, c6, c7, c8, c9, c10, c11⟩ := cx
  refine va_newa (atype := .long) (ty := .long) (N' := N) (a0 := (N, .inr (.inl (fun _ => 0)))) c1 c2 (c3 _ harr) rfl c5 hP hD hS c6 (fun _ => rfl) (nI_pos (by omega)) (nI_clamp (by omega)) (by show N * 8 ≤ _; omega) (by rw [c9]; exact hce) (by rw [c9]; exact hsl) hdg (fun q cA H1 hK hP hD hS => ?_)
  have e : cA = gJ G := va_K.one (i := 1) (j := 4) c5 rfl hK rfl
  subst e
  exact kk q H1 locs ls hP hD hS hl
theorem j_newaB (pc : Nat) (cx : CX G K cc own Ts nL rm) (N : Nat) {x : Int32} (harr : Cond.arrayClass .byte ∈ Ts) (hx : x = nI N) (hN : N < 1000) (hce : cells + 1 ≤ rm.cells) (hsl : slots + N ≤ rm.slots) (hdg : decode cc pc = .ok (.newarray .byte, 2))
    (kk : ∀ q : Nat, JJ G K (cells + 1) (slots + N) (ws ++ [(q, .inl (gB G, N, .inl (fun _ => 0)))]) lv (pc + 2) (.ref q :: st)) : JJ G K cells slots ws lv pc (.int x :: st) := by
  subst hx
  intro H locs ls hP hD hS hl
  obtain ⟨c1, c2, c3, c4, c5, c6, c7, c8, c9, c10, c11⟩ := cx
  refine va_newa (atype := .byte) (ty := .byte) (N' := N) (a0 := (N, .inl (fun _ => 0))) c1 c2 (c3 _ harr) rfl c5 hP hD hS c6 (fun _ => rfl) (nI_pos (by omega)) (nI_clamp (by omega)) (by show N * 1 ≤ _; omega) (by rw [c9]; exact hce) (by rw [c9]; exact hsl) hdg (fun q cA H1 hK hP hD hS => ?_)
  have e : cA = gB G := va_K.one (i := 2) (j := 4) c5 rfl hK rfl
  subst e
  exact kk q H1 locs ls hP hD hS hl
theorem j_newaS (pc : Nat) (cx : CX G K cc own Ts nL rm) (N : Nat) {x : Int32} {index : Nat} (hcl : Cond.classLink own index "OthersShare$Sheet" ∈ Ts) (hAO : va_AO "OthersShare$Sheet" (ks K)) (hx : x = nI N) (hN : N < 1000) (hce : cells + 1 ≤ rm.cells) (hsl : slots + N ≤ rm.slots) (hdg : decode cc pc = .ok (.anewarray index, 3))
    (kk : ∀ q : Nat, JJ G K (cells + 1) (slots + N) (ws ++ [(q, .inl (gS G, N, .inr (.inr (.inr (.inr (fun _ => none))))))]) lv (pc + 3) (.ref q :: st)) : JJ G K cells slots ws lv pc (.int x :: st) := by
  subst hx
  intro H locs ls hP hD hS hl
  obtain ⟨c1, c2, c3, c4, c5, c6, c7, c8, c9, c10, c11⟩ := cx
  refine va_newq (C := "OthersShare$Sheet") (N' := N) c1 c2 c4 (c3 _ hcl) hAO c5 hP hD hS c6 (nI_pos (by omega)) (nI_clamp (by omega)) (by omega) (by rw [c9]; exact hce) (by rw [c9]; exact hsl) hdg (fun q cA H1 hK hP hD hS => ?_)
  have e : cA = gS G := va_K.one (i := 3) (j := 4) c5 rfl hK rfl
  subst e
  exact kk q H1 locs ls hP hD hS hl
theorem j_aast (pc : Nat) (cx : CX G K cc own Ts nL rm) (q0 qk i : Nat) (ws' : va_W) {a n v : Nat} {vs : List Value} {f : Nat → Option Nat} {x : Int32} (ha : ws[q0]? = some (a, .inl (gS G, n, .inr (.inr (.inr (.inr f)))))) (hv : ws[qk]? = some (v, .inr (2, vs))) (hi : x = nI i) (hlt : i < n) (hn : n < 2147483648) (hws : ws.set q0 (a, .inl (gS G, n, .inr (.inr (.inr (.inr (va_up f i (some v))))))) = ws') (hdg : decode cc pc = .ok (.aastore, 1))
    (kk : JJ G K cells slots ws' lv (pc + 1) st) : JJ G K cells slots ws lv pc (.ref v :: .int x :: .ref a :: st) := by
  subst hi
  subst hws
  intro H locs ls hP hD hS hl
  refine va_astq (r := (RX3, TX3, 3)) cx.1 cx.2.1 cx.2.2.2.2.1 hP hD hS q0 3 qk 2 ha rfl hv rfl (vp_in_nI hlt hn) hdg (fun H1 locs1 hP hD hS => ?_)
  rw [nI_clamp (Nat.lt_trans hlt hn)] at hP hD
  exact kk H1 locs1 ls hP hD hS hl
theorem j_cellS {pc : Nat} (q0 : Nat) (g : Nat → Option Nat) (ws' : va_W) {a n : Nat} {c : ClassId} {f : Nat → Option Nat} (ha : ws[q0]? = some (a, .inl (c, n, .inr (.inr (.inr (.inr f)))))) (h : ∀ j, j < n → f j = g j) (hws : ws.set q0 (a, .inl (c, n, .inr (.inr (.inr (.inr g))))) = ws') (k : JJ G K cells slots ws' lv pc st) : JJ G K cells slots ws lv pc st :=
  j_cell q0 ws' ha (fun H hH => by
    have e : arrV c n (fun j => va_rf (f j)) = arrV c n (fun j => va_rf (g j)) := arrV_congr (fun j hj => by rw [h j hj])
    show H[a]? = some (arrV c n (fun j => va_rf (g j)))
    rw [← e]; exact hH) hws k
theorem j_ctor (pc : Nat) (cx : CX G K cc own Ts nL rm) (n : Nat) (isC isR : List Nat) (Wr : va_W) (As : List Value) {b : Nat} {y : MethodName} {wy ws' : List Cond} {bytes : ByteArray} {maxL : Nat} {rm' : Room} {W1 : va_W} {mc ms : Nat} {E : State → Prop} {S : Type} {ok : S → Prop} {W2 : S → va_W} (hM : KN (kl K) G y wy rm' (.ref b :: As) W1 mc ms E ok W2) {index : Nat} (hG : GoodIn Ts wy) (hw : wy = Cond.code y bytes maxL none :: ws') (hrc : rm'.cells = mc) (hrs : rm'.slots = ms) (hini : Cond.initialized y.cls ∈ Ts) (hlk : Cond.methodLink own index y ∈ Ts) (hin : Cond.instanceMethod y ∈ Ts) (hy1 : y.name = "<init>")
    (hd : y.cls ≠ "java/lang/invoke/MethodHandle" ∧ y.cls ≠ "java/lang/invoke/VarHandle" ∧ (parseMethodDescriptor y.desc).map (fun d => d.parameters.length) = some n) (hR : rm'.frames + 1 ≤ rm.frames ∧ 8 + (maxL + 11) + rm'.locals ≤ rm.locals) (hce : cells + mc ≤ rm.cells ∧ slots + ms ≤ rm.slots) (hE : okE E) (hE0 : E (ks K)) (hC : isC.map (fun i => ws[i]?) = W1.map some) (hn : va_nd isC = true) (hRr : isR.map (fun i => ws[i]?) = Wr.map some) (hnR : va_nd isR = true) (hdis : ∀ i ∈ isR, i ∉ isC) (hlen : As.length = n) {st0 : List Value} (hst : st0 = As.reverse ++ .ref b :: st) (hroom : (st.map fun v => v.category).sum ≤ 8) (hdg : decode cc pc = .ok (.invokespecial index, 3))
    (kk : ∀ u, ok u → JJ G K (cells + mc) (slots + ms) (Wr ++ W2 u) lv (pc + 3) st) : JJ G K cells slots ws lv pc st0 := by
  subst hst
  intro H locs ls hP hD hS hl
  obtain ⟨c1, c2, c3, c4, c5, c6, c7, c8, c9, c10, c11⟩ := id cx
  have hF := va_free (wc := W1) hD hS c6 isC hC
  refine va_callv (va_runI (As := As) (rest := st) ⟨c1, c2, c7, c4, c3⟩ (hM H.size) (cwI n c3 hG hw hrc hrs (c3 _ hini) (c3 _ hlk) (c3 _ hin) hy1 hd (by rw [c9]; exact hR)) ⟨KPx.blind hE, fun U hU hW => by
    have h9 := pre_at cx hP hD hS isC hC hn (.ref b :: As) U hU hW
    exact ⟨h9.1, h9.2, hE.2 _ _ hW hE0⟩⟩ rfl hlen (hl.1.trans c8) rfl (lv_room hroom) hdg (by rw [c9]; exact hce)) hS (fun q _ h => hF q h) hF (fun u t H1 locs1 ht hvm hw hB hz1 hk1 hS => ?_)
  obtain ⟨hB1, hB2⟩ := hB
  rw [ht] at hB1
  have h9 := va_join hP hD isC isR hC hRr hnR hdis hk1 hF hB1 hB2
  exact kk u hw H1 locs1 ls h9.1 h9.2 hS hl
theorem j_ctorN (pc : Nat) (cx : CX G K cc own Ts nL rm) (n : Nat) (isC isR : List Nat) (Wr : va_W) (As : List Value) {b : Nat} {y : MethodName} {host : String} {wy ws' : List Cond} {bytes : ByteArray} {maxL : Nat} {rm' : Room} {W1 : va_W} {mc ms : Nat} {E : State → Prop} {S : Type} {ok : S → Prop} {W2 : S → va_W} (hM : KN (kl K) G y wy rm' (.ref b :: As) W1 mc ms E ok W2) {index : Nat} (hG : GoodIn Ts wy) (hw : wy = Cond.code y bytes maxL none :: ws') (hrc : rm'.cells = mc) (hrs : rm'.slots = ms) (hini : Cond.initialized y.cls ∈ Ts) (hlk : va_Nw (.methodLinkNest own index y host) (ks K)) (hin : Cond.instanceMethod y ∈ Ts) (hy1 : y.name = "<init>")
    (hd : y.cls ≠ "java/lang/invoke/MethodHandle" ∧ y.cls ≠ "java/lang/invoke/VarHandle" ∧ (parseMethodDescriptor y.desc).map (fun d => d.parameters.length) = some n) (hR : rm'.frames + 1 ≤ rm.frames ∧ 8 + (maxL + 11) + rm'.locals ≤ rm.locals) (hce : cells + mc ≤ rm.cells ∧ slots + ms ≤ rm.slots) (hE : okE E) (hE0 : E (ks K)) (hC : isC.map (fun i => ws[i]?) = W1.map some) (hn : va_nd isC = true) (hRr : isR.map (fun i => ws[i]?) = Wr.map some) (hnR : va_nd isR = true) (hdis : ∀ i ∈ isR, i ∉ isC) (hlen : As.length = n) {st0 : List Value} (hst : st0 = As.reverse ++ .ref b :: st) (hroom : (st.map fun v => v.category).sum ≤ 8) (hdg : decode cc pc = .ok (.invokespecial index, 3))
    (kk : ∀ u, ok u → JJ G K (cells + mc) (slots + ms) (Wr ++ W2 u) lv (pc + 3) st) : JJ G K cells slots ws lv pc st0 := by
  subst hst
  intro H locs ls hP hD hS hl
  obtain ⟨c1, c2, c3, c4, c5, c6, c7, c8, c9, c10, c11⟩ := id cx
  have hF := va_free (wc := W1) hD hS c6 isC hC
  refine va_callv (va_runIN (As := As) (rest := st) ⟨c1, c2, c7, c4, c3⟩ (hM H.size) ⟨va_cnB n c3 hG hw hrc hrs hlk (c3 _ hini) hd (by rw [c9]; exact hR), hy1, c3 _ hin⟩ ⟨KPx.blind hE, fun U hU hW => by
    have h9 := pre_at cx hP hD hS isC hC hn (.ref b :: As) U hU hW
    exact ⟨h9.1, h9.2, hE.2 _ _ hW hE0⟩⟩ rfl hlen (hl.1.trans c8) rfl (lv_room hroom) hdg (by rw [c9]; exact hce)) hS (fun q _ h => hF q h) hF (fun u t H1 locs1 ht hvm hw hB hz1 hk1 hS => ?_)
  obtain ⟨hB1, hB2⟩ := hB
  rw [ht] at hB1
  have h9 := va_join hP hD isC isR hC hRr hnR hdis hk1 hF hB1 hB2
  exact kk u hw H1 locs1 ls h9.1 h9.2 hS hl
end JC
/-- what the class's constructor needs of the tables besides -/
def xE (U : State) : Prop := va_Nw (.methodLinkNest RX5 28 yX4_init "OthersShare") U ∧ va_Nw (.methodLinkNest RX5 48 yX3_init "OthersShare") U ∧ va_AO "OthersShare$Sheet" U
theorem okE_x : okE xE := ⟨fun U g mk a h => ⟨va_Nw.same (u := U) (U := U.calling g mk a) rfl rfl h.1, va_Nw.same (u := U) (U := U.calling g mk a) rfl rfl h.2.1, va_AO.moved (u := U) (U := U.calling g mk a) (Vm.Alike.refl U.vm) h.2.2⟩, fun s U hW h => ⟨va_Nw.warmM hW h.1, va_Nw.warmM hW h.2.1, va_AO.moved hW.alike h.2.2⟩⟩
