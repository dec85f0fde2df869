/-! fields, rows, calls, returns, contracts, over JJ -/
def bI (b : Bool) : Int32 := if b then 1 else 0
theorem bI_0 {b : Bool} (h : bI b = 0) : b = false := by cases b with | false => rfl | true => exact absurd h (by decide)
theorem bI_1 {b : Bool} (h : ¬ bI b = 0) : b = true := by cases b with | true => rfl | false => exact absurd rfl h
theorem bI_nar (b : Bool) : narrow .boolean (.int (bI b)) = .int (bI b) := by cases b <;> rfl
theorem bI_fit (b : Bool) : fits .boolean (.int (bI b)) = true := by cases b <;> rfl
theorem bI_t : bI true = 1 := rfl
theorem bI_f : bI false = 0 := rfl
section JS
variable {G : pG} {K : pK} {cc : ByteArray} {own : String} {Ts : List Cond} {nL : Nat} {rm : Room} {cells slots : Nat} {ws : va_W} {lv : List (Nat × Value)} {st : List Value}
theorem j_ifB_eq (pc : Nat) (cx : CX G K cc own Ts nL rm) (tgt : Nat) {b : Bool} {off : Int} (hdg : decode cc pc = .ok (.ifCond .eq off, 3)) (ht : (pc : Int) + off = (tgt : Int)) (kt : b = false → JJ G K cells slots ws lv tgt st) (kf : b = true → JJ G K cells slots ws lv (pc + 3) st) : JJ G K cells slots ws lv pc (.int (bI b) :: st) :=
  j_if_eq pc cx tgt hdg ht (fun h => kt (bI_0 h)) (fun h => kf (bI_1 h))
theorem j_ifB_ne (pc : Nat) (cx : CX G K cc own Ts nL rm) (tgt : Nat) {b : Bool} {off : Int} (hdg : decode cc pc = .ok (.ifCond .ne off, 3)) (ht : (pc : Int) + off = (tgt : Int)) (kt : b = true → JJ G K cells slots ws lv tgt st) (kf : b = false → JJ G K cells slots ws lv (pc + 3) st) : JJ G K cells slots ws lv pc (.int (bI b) :: st) :=
  j_if_ne pc cx tgt hdg ht (fun h => kt (bI_1 h)) (fun h => kf (bI_0 h))
theorem j_top {x : Int32} {pc : Nat} (y : Int32) (h : x = y) (k : JJ G K cells slots ws lv pc (.int y :: st)) : JJ G K cells slots ws lv pc (.int x :: st) := h ▸ k
theorem j_topl {x : Int64} {pc : Nat} (y : Int64) (h : x = y) (k : JJ G K cells slots ws lv pc (.long y :: st)) : JJ G K cells slots ws lv pc (.long x :: st) := h ▸ k
theorem j_gen {x : Int32} {pc : Nat} (k : ∀ y : Int32, y = x → JJ G K cells slots ws lv pc (.int y :: st)) : JJ G K cells slots ws lv pc (.int x :: st) := k x rfl
theorem j_st {pc : Nat} {st' : List Value} (h : st = st') (k : JJ G K cells slots ws lv pc st') : JJ G K cells slots ws lv pc st := h ▸ k
theorem j_ws {pc : Nat} (ws' : va_W) (h : ws = ws') (k : JJ G K cells slots ws' lv pc st) : JJ G K cells slots ws lv pc st := h ▸ k
theorem j_lv {pc : Nat} (js : List Nat) {lv' : List (Nat × Value)} (h : lv_pick lv js = lv') (k : JJ G K cells slots ws lv' pc st) : JJ G K cells slots ws lv pc st := fun H locs ls hP hD hS hl => k H locs ls hP hD hS (lv_sub hl js h)
theorem j_get (pc : Nat) (cx : CX G K cc own Ts nL rm) (q0 k : Nat) {ref C : String} {T : u_T} {N ci index a : Nat} {fs : List Value} {v : Value} (hin : ∀ w ∈ u_ws C T N, w ∈ Ts) (hlk : Cond.fieldLink own index ref (T k).2.1 (T k).2.2.1 ∈ Ts) (hc : vwCl[ci]? = some (C, T, N)) (hk : k < N) (hsm : (T k).1 = ref) (he : ws[q0]? = some (a, .inr (ci, fs))) (hv : fs[k]? = some v) (hdg : decode cc pc = .ok (.getfield index, 3))
    (kk : JJ G K cells slots ws lv (pc + 3) (v :: st)) : JJ G K cells slots ws lv pc (.ref a :: st) :=
  fun H locs ls hP hD hS hl => va_get (T := T) cx.1 cx.2.1 cx.2.2.1 hin cx.2.2.2.1 cx.2.2.2.2.1 hP q0 he hc k hk (cx.2.2.1 _ hlk) (fun x h => by rw [← hsm]; exact h) hv hdg (kk H locs ls hP hD hS hl)
theorem j_put (pc : Nat) (cx : CX G K cc own Ts nL rm) (q0 k : Nat) (ws' : va_W) {ref C : String} {T : u_T} {N ci index a : Nat} {fs : List Value} {v : Value} {ty0 : Nat → FieldType} (hin : ∀ w ∈ u_ws C T N, w ∈ Ts) (hlk : Cond.fieldLink own index ref (T k).2.1 (T k).2.2.1 ∈ Ts) (hc : vwCl[ci]? = some (C, T, N)) (hk : k < N) (hsm : (T k).1 = ref) (hty : ∀ k, k < N → parseFieldDescriptor (T k).2.2.1 = some (ty0 k)) (hnm : ∀ a, a < N → ∀ b, b < N → a ≠ b → (T a).2.1 ≠ (T b).2.1) (hfin : (T k).2.2.2 = false)
    (he : ws[q0]? = some (a, .inr (ci, fs))) (hn : narrow (ty0 k) v = v) (hfit : fits (ty0 k) v = true) (hlen : k < fs.length) (hws : ws.set q0 (a, .inr (ci, fs.set k v)) = ws') (hdg : decode cc pc = .ok (.putfield index, 3))
    (kk : JJ G K cells slots ws' lv (pc + 3) st) : JJ G K cells slots ws lv pc (v :: .ref a :: st) := by
  subst hws
  exact fun H locs ls hP hD hS hl => va_put (T := T) (ty := ty0 k) cx.1 cx.2.1 cx.2.2.1 hin ty0 hty hnm cx.2.2.2.1 cx.2.2.2.2.1 hP hD hS q0 he hc k hk (cx.2.2.1 _ hlk) (fun x h => by rw [← hsm]; exact h) hfin (hty k hk) hn hfit hlen hdg (fun H1 locs1 hP hD hS => kk H1 locs1 ls hP hD hS hl)
theorem j_putF (pc : Nat) (cx : CX G K cc own Ts nL rm) (hname : (kme K).name = "<init>") (q0 k : Nat) (ws' : va_W) {ref C : String} {T : u_T} {N ci index a : Nat} {fs : List Value} {v : Value} {ty0 : Nat → FieldType} (hin : ∀ w ∈ u_ws C T N, w ∈ Ts) (hlk : Cond.fieldLink own index ref (T k).2.1 (T k).2.2.1 ∈ Ts) (hc : vwCl[ci]? = some (C, T, N)) (hk : k < N) (hsm : (T k).1 = ref) (hown : (T k).1 = own) (hty : ∀ k, k < N → parseFieldDescriptor (T k).2.2.1 = some (ty0 k)) (hnm : ∀ a, a < N → ∀ b, b < N → a ≠ b → (T a).2.1 ≠ (T b).2.1) (hfin : (T k).2.2.2 = true)
    (he : ws[q0]? = some (a, .inr (ci, fs))) (hn : narrow (ty0 k) v = v) (hfit : fits (ty0 k) v = true) (hlen : k < fs.length) (hws : ws.set q0 (a, .inr (ci, fs.set k v)) = ws') (hdg : decode cc pc = .ok (.putfield index, 3))
    (kk : JJ G K cells slots ws' lv (pc + 3) st) : JJ G K cells slots ws lv pc (v :: .ref a :: st) := by
  subst hws
  exact fun H locs ls hP hD hS hl => va_putF (T := T) (ty := ty0 k) cx.1 cx.2.1 cx.2.2.1 hin ty0 hty hnm cx.2.2.2.1 cx.2.2.2.2.1 hP hD hS q0 he hc k hk (cx.2.2.1 _ hlk) (fun x h => by rw [← hsm]; exact h) hfin hname hown (hty k hk) hn hfit hlen hdg (fun H1 locs1 hP hD hS => kk H1 locs1 ls hP hD hS hl)
theorem j_iald (pc : Nat) (cx : CX G K cc own Ts nL rm) (q0 i : Nat) {a n : Nat} {f : Nat → Int32} {x : Int32} (ha : ws[q0]? = some (a, .inl (gI G, n, .inl f))) (hi : x = nI i) (hlt : i < n) (hn : n < 2147483648) (hdg : decode cc pc = .ok (.iaload, 1))
    (kk : JJ G K cells slots ws lv (pc + 1) (.int (f i) :: st)) : JJ G K cells slots ws lv pc (.int x :: .ref a :: st) := by
  subst hi
  intro H locs ls hP hD hS hl
  refine va_iald cx.1 cx.2.1 cx.2.2.2.2.1 hP q0 0 ha rfl (vp_in_nI hlt hn) hdg ?_
  rw [nI_clamp (Nat.lt_trans hlt hn)]
  exact kk H locs ls hP hD hS hl
theorem j_bald (pc : Nat) (cx : CX G K cc own Ts nL rm) (q0 i : Nat) {a n : Nat} {f : Nat → Int32} {x : Int32} (ha : ws[q0]? = some (a, .inl (gB G, n, .inl f))) (hi : x = nI i) (hlt : i < n) (hn : n < 2147483648) (hdg : decode cc pc = .ok (.baload, 1))
    (kk : JJ G K cells slots ws lv (pc + 1) (.int (f i) :: st)) : JJ G K cells slots ws lv pc (.int x :: .ref a :: st) := by
  subst hi
  intro H locs ls hP hD hS hl
  refine va_bald cx.1 cx.2.1 cx.2.2.2.2.1 hP q0 2 ha rfl (vp_in_nI hlt hn) hdg ?_
  rw [nI_clamp (Nat.lt_trans hlt hn)]
  exact kk H locs ls hP hD hS hl
theorem j_lald (pc : Nat) (cx : CX G K cc own Ts nL rm) (q0 i : Nat) {a n : Nat} {f : Nat → Int64} {x : Int32} (ha : ws[q0]? = some (a, .inl (gJ G, n, .inr (.inl f)))) (hi : x = nI i) (hlt : i < n) (hn : n < 2147483648) (hdg : decode cc pc = .ok (.laload, 1))
    (kk : JJ G K cells slots ws lv (pc + 1) (.long (f i) :: st)) : JJ G K cells slots ws lv pc (.int x :: .ref a :: st) := by
  subst hi
  intro H locs ls hP hD hS hl
  refine va_lald cx.1 cx.2.1 cx.2.2.2.2.1 hP q0 1 ha rfl (vp_in_nI hlt hn) hdg ?_
  rw [nI_clamp (Nat.lt_trans hlt hn)]
  exact kk H locs ls hP hD hS hl
theorem j_aald (pc : Nat) (cx : CX G K cc own Ts nL rm) (q0 i : Nat) {a n : Nat} {f : Nat → Option Nat} {x : Int32} (ha : ws[q0]? = some (a, .inl (gS G, n, .inr (.inr (.inr (.inr f)))))) (hi : x = nI i) (hlt : i < n) (hn : n < 2147483648) (hdg : decode cc pc = .ok (.aaload, 1))
    (kk : JJ G K cells slots ws lv (pc + 1) (va_rf (f i) :: st)) : JJ G K cells slots ws lv pc (.int x :: .ref a :: st) := by
  subst hi
  intro H locs ls hP hD hS hl
  refine va_aldq cx.1 cx.2.1 cx.2.2.2.2.1 hP q0 3 ha rfl (vp_in_nI hlt hn) hdg ?_
  rw [nI_clamp (Nat.lt_trans hlt hn)]
  exact kk H locs ls hP hD hS hl
theorem j_iast (pc : Nat) (cx : CX G K cc own Ts nL rm) (q0 i : Nat) (ws' : va_W) {a n : Nat} {f : Nat → Int32} {x y : Int32} (ha : ws[q0]? = some (a, .inl (gI G, n, .inl f))) (hi : x = nI i) (hlt : i < n) (hn : n < 2147483648) (hws : ws.set q0 (a, .inl (gI G, n, .inl (upd f i y))) = ws') (hdg : decode cc pc = .ok (.iastore, 1))
    (kk : JJ G K cells slots ws' lv (pc + 1) st) : JJ G K cells slots ws lv pc (.int y :: .int x :: .ref a :: st) := by
  subst hi
  subst hws
  intro H locs ls hP hD hS hl
  refine va_iast cx.1 cx.2.1 cx.2.2.2.2.1 hP hD hS q0 0 ha rfl (vp_in_nI hlt hn) hdg (fun H1 locs1 hP hD hS => ?_)
  rw [nI_clamp (Nat.lt_trans hlt hn)] at hP hD
  exact kk H1 locs1 ls hP hD hS hl
theorem j_bast (pc : Nat) (cx : CX G K cc own Ts nL rm) (q0 i : Nat) (ws' : va_W) {a n : Nat} {f : Nat → Int32} {x y : Int32} (ha : ws[q0]? = some (a, .inl (gB G, n, .inl f))) (hi : x = nI i) (hlt : i < n) (hn : n < 2147483648) (hws : ws.set q0 (a, .inl (gB G, n, .inl (upd f i (vp_nar .byte y)))) = ws') (hdg : decode cc pc = .ok (.bastore, 1))
    (kk : JJ G K cells slots ws' lv (pc + 1) st) : JJ G K cells slots ws lv pc (.int y :: .int x :: .ref a :: st) := by
  subst hi
  subst hws
  intro H locs ls hP hD hS hl
  refine va_bast cx.1 cx.2.1 cx.2.2.2.2.1 hP hD hS q0 2 ha rfl (vp_in_nI hlt hn) hdg (fun H1 locs1 hP hD hS => ?_)
  rw [nI_clamp (Nat.lt_trans hlt hn)] at hP hD
  exact kk H1 locs1 ls hP hD hS hl
theorem j_last (pc : Nat) (cx : CX G K cc own Ts nL rm) (q0 i : Nat) (ws' : va_W) {a n : Nat} {f : Nat → Int64} {x : Int32} {y : Int64} (ha : ws[q0]? = some (a, .inl (gJ G, n, .inr (.inl f)))) (hi : x = nI i) (hlt : i < n) (hn : n < 2147483648) (hws : ws.set q0 (a, .inl (gJ G, n, .inr (.inl (vp_updL f i y)))) = ws') (hdg : decode cc pc = .ok (.lastore, 1))
    (kk : JJ G K cells slots ws' lv (pc + 1) st) : JJ G K cells slots ws lv pc (.long y :: .int x :: .ref a :: st) := by
  subst hi
  subst hws
  intro H locs ls hP hD hS hl
  refine va_last cx.1 cx.2.1 cx.2.2.2.2.1 hP hD hS q0 1 ha rfl (vp_in_nI hlt hn) hdg (fun H1 locs1 hP hD hS => ?_)
  rw [nI_clamp (Nat.lt_trans hlt hn)] at hP hD
  exact kk H1 locs1 ls hP hD hS hl
theorem j_alenI (pc : Nat) (cx : CX G K cc own Ts nL rm) (q0 : Nat) {a : Nat} {x : vp_A} (v : Int32) (ha : ws[q0]? = some (a, .inl (gI G, x))) (hv : Int32.ofNat x.1 = v) (hdg : decode cc pc = .ok (.arraylength, 1))
    (kk : JJ G K cells slots ws lv (pc + 1) (.int v :: st)) : JJ G K cells slots ws lv pc (.ref a :: st) :=
  fun H locs ls hP hD hS hl => va_alen cx.1 cx.2.1 cx.2.2.2.2.1 hP q0 0 ha rfl hv hdg (kk H locs ls hP hD hS hl)
theorem j_max (pc : Nat) (cx : CX G K cc own Ts nL rm) {index : Nat} (hlk : Cond.methodLink own index Lib.Math.max.name ∈ Ts) (hst : Cond.static Lib.Math.max.name ∈ Ts) (hini : Cond.initialized "java/lang/Math" ∈ Ts) (hcd : Cond.code Lib.Math.max.name Lib.Math.max.code 2 (some .int) ∈ Ts) (hfr : 1 ≤ rm.frames) (hlo : (st.map fun v => v.category).sum + 13 ≤ rm.locals) (hce : cells ≤ rm.cells) (hsl : slots ≤ rm.slots) {x y : Int32} (hdg : decode cc pc = .ok (.invokestatic index, 3))
    (kk : JJ G K cells slots ws lv (pc + 3) (.int (if x < y then y else x) :: st)) : JJ G K cells slots ws lv pc (.int y :: .int x :: st) := by
  intro H locs ls hP hD hS hl
  obtain ⟨c1, c2, c3, c4, c5, c6, c7, c8, c9, c10, c11⟩ := cx
  exact va_mmax c1 c2 (by rw [hl.1, c8]; exact c7) c4 (c3 _ hlk) (c3 _ hst) (c3 _ hini) (c3 _ hcd) (by rw [c9]; exact hfr) (by rw [c9]; exact hlo) (by rw [c9]; exact hce) (by rw [c9]; exact hsl) hdg (kk H locs ls hP hD hS hl)
theorem j_min (pc : Nat) (cx : CX G K cc own Ts nL rm) {index : Nat} (hlk : Cond.methodLink own index Lib.Math.min.name ∈ Ts) (hst : Cond.static Lib.Math.min.name ∈ Ts) (hini : Cond.initialized "java/lang/Math" ∈ Ts) (hcd : Cond.code Lib.Math.min.name Lib.Math.min.code 2 (some .int) ∈ Ts) (hfr : 1 ≤ rm.frames) (hlo : (st.map fun v => v.category).sum + 13 ≤ rm.locals) (hce : cells ≤ rm.cells) (hsl : slots ≤ rm.slots) {x y : Int32} (hdg : decode cc pc = .ok (.invokestatic index, 3))
    (kk : JJ G K cells slots ws lv (pc + 3) (.int (if y < x then y else x) :: st)) : JJ G K cells slots ws lv pc (.int y :: .int x :: st) := by
  intro H locs ls hP hD hS hl
  obtain ⟨c1, c2, c3, c4, c5, c6, c7, c8, c9, c10, c11⟩ := cx
  exact va_mmin c1 c2 (by rw [hl.1, c8]; exact c7) c4 (c3 _ hlk) (c3 _ hst) (c3 _ hini) (c3 _ hcd) (by rw [c9]; exact hfr) (by rw [c9]; exact hlo) (by rw [c9]; exact hce) (by rw [c9]; exact hsl) hdg (kk H locs ls hP hD hS hl)
theorem j_copyi (pc : Nat) (cx : CX G K cc own Ts nL rm) (q0 q1 sp dp n : Nat) (ws' : va_W) {index a0 a n0 n1 : Nat} {f g : Nat → Int32} {x0 x1 x2 : Int32} (hlk : Cond.methodLink own index arraycopyName ∈ Ts) (hnat : Cond.native arraycopyName ∈ Ts) (hst : Cond.static arraycopyName ∈ Ts) (hini : Cond.initialized "java/lang/System" ∈ Ts) (ha0 : ws[q0]? = some (a0, .inl (gI G, n0, .inl f))) (ha1 : ws[q1]? = some (a, .inl (gI G, n1, .inl g))) (h0 : x0 = nI sp) (h1 : x1 = nI dp) (h2 : x2 = nI n) (h4 : sp + n ≤ n0) (h5 : dp + n ≤ n1) (hb0 : n0 < 2147483648) (hb1 : n1 < 2147483648)
    (hws : ws.set q1 (a, .inl (gI G, n1, .inl (va_cpy f g sp dp n))) = ws') (hfr : 1 ≤ rm.frames) (hlo : (st.map fun v => v.category).sum + (nativeFrameWords "java/lang/System" "arraycopy" 5 + 11) ≤ rm.locals) (hdg : decode cc pc = .ok (.invokestatic index, 3))
    (kk : JJ G K cells slots ws' lv (pc + 3) st) : JJ G K cells slots ws lv pc (.int x2 :: .int x1 :: .ref a :: .int x0 :: .ref a0 :: st) := by
  subst h0; subst h1; subst h2; subst hws
  intro H locs ls hP hD hS hl
  obtain ⟨c1, c2, c3, c4, c5, c6, c7, c8, c9, c10, c11⟩ := cx
  have e0 : (nI sp).toNatClampNeg = sp := nI_clamp (by omega)
  have e1 : (nI dp).toNatClampNeg = dp := nI_clamp (by omega)
  have e2 : (nI n).toNatClampNeg = n := nI_clamp (by omega)
  refine va_copyi (ty := .int) c1 c2 (by rw [hl.1, c8]; exact c7) c4 (c3 _ hlk) (c3 _ hnat) (c3 _ hst) (c3 _ hini) c5 hP hD hS q0 q1 0 0 ha0 ha1 rfl rfl rfl (nI_pos (by omega)) (nI_pos (by omega)) (nI_pos (by omega)) (by rw [e0, e2]; exact h4) (by rw [e1, e2]; exact h5) (fun i _ => rfl) (by rw [c9]; exact hfr) (by rw [c9]; exact hlo) hdg (fun H1 locs1 hP hD hS => ?_)
  rw [e0, e1, e2] at hP hD
  exact kk H1 locs1 ls hP hD hS hl
theorem j_copyl (pc : Nat) (cx : CX G K cc own Ts nL rm) (q0 q1 sp dp n : Nat) (ws' : va_W) {index a0 a n0 n1 : Nat} {f g : Nat → Int64} {x0 x1 x2 : Int32} (hlk : Cond.methodLink own index arraycopyName ∈ Ts) (hnat : Cond.native arraycopyName ∈ Ts) (hst : Cond.static arraycopyName ∈ Ts) (hini : Cond.initialized "java/lang/System" ∈ Ts) (ha0 : ws[q0]? = some (a0, .inl (gJ G, n0, .inr (.inl f)))) (ha1 : ws[q1]? = some (a, .inl (gJ G, n1, .inr (.inl g)))) (h0 : x0 = nI sp) (h1 : x1 = nI dp) (h2 : x2 = nI n) (h4 : sp + n ≤ n0) (h5 : dp + n ≤ n1) (hb0 : n0 < 2147483648) (hb1 : n1 < 2147483648)
    (hws : ws.set q1 (a, .inl (gJ G, n1, .inr (.inl (va_cpy f g sp dp n)))) = ws') (hfr : 1 ≤ rm.frames) (hlo : (st.map fun v => v.category).sum + (nativeFrameWords "java/lang/System" "arraycopy" 5 + 11) ≤ rm.locals) (hdg : decode cc pc = .ok (.invokestatic index, 3))
    (kk : JJ G K cells slots ws' lv (pc + 3) st) : JJ G K cells slots ws lv pc (.int x2 :: .int x1 :: .ref a :: .int x0 :: .ref a0 :: st) := by
  subst h0; subst h1; subst h2; subst hws
  intro H locs ls hP hD hS hl
  obtain ⟨c1, c2, c3, c4, c5, c6, c7, c8, c9, c10, c11⟩ := cx
  have e0 : (nI sp).toNatClampNeg = sp := nI_clamp (by omega)
  have e1 : (nI dp).toNatClampNeg = dp := nI_clamp (by omega)
  have e2 : (nI n).toNatClampNeg = n := nI_clamp (by omega)
  refine va_copyl (ty := .long) c1 c2 (by rw [hl.1, c8]; exact c7) c4 (c3 _ hlk) (c3 _ hnat) (c3 _ hst) (c3 _ hini) c5 hP hD hS q0 q1 1 1 ha0 ha1 rfl rfl rfl (nI_pos (by omega)) (nI_pos (by omega)) (nI_pos (by omega)) (by rw [e0, e2]; exact h4) (by rw [e1, e2]; exact h5) (fun i _ => rfl) (by rw [c9]; exact hfr) (by rw [c9]; exact hlo) hdg (fun H1 locs1 hP hD hS => ?_)
  rw [e0, e1, e2] at hP hD
  exact kk H1 locs1 ls hP hD hS hl
theorem j_tableIn (pc : Nat) (cx : CX G K cc own Ts nL rm) (tgt : Nat) {dflt lo hi : Int} {offs : Array Int} {len : Nat} {x : Int32} (z : Int) {off : Int} (hdg : decode cc pc = .ok (.tableswitch dflt lo hi offs, len)) (hx : x = Int32.ofInt z) (hz : (Int32.ofInt z).toInt = z) (h1 : ¬ z < lo) (h2 : ¬ hi < z) (ho : offs[(z - lo).toNat]? = some off) (ht : (pc : Int) + off = (tgt : Int))
    (kk : JJ G K cells slots ws lv tgt st) : JJ G K cells slots ws lv pc (.int x :: st) := by
  subst hx
  intro H locs ls hP hD hS hl
  exact lv_tableIn cx.1 cx.2.1 hdg (by rw [hz]; exact h1) (by rw [hz]; exact h2) (by rw [hz]; exact ho) ht (kk H locs ls hP hD hS hl)
theorem j_tableOut (pc : Nat) (cx : CX G K cc own Ts nL rm) (tgt : Nat) {dflt lo hi : Int} {offs : Array Int} {len : Nat} {x : Int32} (hdg : decode cc pc = .ok (.tableswitch dflt lo hi offs, len)) (h : x.toInt < lo ∨ hi < x.toInt) (ht : (pc : Int) + dflt = (tgt : Int))
    (kk : JJ G K cells slots ws lv tgt st) : JJ G K cells slots ws lv pc (.int x :: st) :=
  fun H locs ls hP hD hS hl => lv_tableOut cx.1 cx.2.1 hdg h ht (kk H locs ls hP hD hS hl)
end JS
/-! ## cells set back in their places -/
def rep : va_W → List Nat → va_W → va_W
  | ws, i :: is, q :: qs => rep (ws.set i q) is qs
  | ws, _, _ => ws
theorem rep_get : ∀ (is : List Nat) (qs ws : va_W), is.length = qs.length → ∀ (k : Nat) (q : Nat × va_E), (rep ws is qs)[k]? = some q → (∃ j : Nat, qs[j]? = some q) ∨ (ws[k]? = some q ∧ k ∉ is)
  | [], qs, ws, _, k, q, h => by
    cases qs with
    | nil => exact Or.inr ⟨h, by simp⟩
    | cons a b => exact Or.inr ⟨h, by simp⟩
  | i :: is, [], ws, hl, k, q, h => by simp at hl
  | i :: is, q0 :: qs, ws, hl, k, q, h => by
    have hl' : is.length = qs.length := by simpa using hl
    rcases rep_get is qs (ws.set i q0) hl' k q h with ⟨j, hj⟩ | ⟨h1, h2⟩
    · exact Or.inl ⟨j + 1, by simpa using hj⟩
    · by_cases hk : k = i
      · subst hk
        refine Or.inl ⟨0, ?_⟩
        rw [List.getElem?_set] at h1
        simp only [if_true] at h1
        split at h1
        · simpa using h1
        · cases h1
      · refine Or.inr ⟨?_, ?_⟩
        · rw [List.getElem?_set] at h1
          rw [if_neg (fun e => hk e.symm)] at h1
          exact h1
        · intro hm
          rcases List.mem_cons.mp hm with e | e
          · exact hk e
          · exact h2 e
theorem rep_addr : ∀ (is : List Nat) (qs ws : va_W), is.map (fun i => (ws.map Prod.fst)[i]?) = qs.map (fun q => some q.1) → (rep ws is qs).map Prod.fst = ws.map Prod.fst
  | [], qs, ws, _ => by cases qs <;> rfl
  | i :: is, [], ws, _ => rfl
  | i :: is, q0 :: qs, ws, h => by
    simp only [List.map_cons, List.cons.injEq] at h
    have e : (ws.set i q0).map Prod.fst = ws.map Prod.fst := by
      rw [List.map_set]
      apply List.ext_getElem?
      intro k
      rw [List.getElem?_set]
      by_cases hk : i = k
      · subst hk
        rw [if_pos rfl, h.1]
        split
        · rfl
        · rename_i hh
          have := h.1
          rw [List.getElem?_eq_none (by omega)] at this
          cases this
      · rw [if_neg hk]
    show (rep (ws.set i q0) is qs).map Prod.fst = _
    rw [rep_addr is qs (ws.set i q0) (by rw [e]; exact h.2), e]
theorem va_D.addr {A : Nat → Prop} {ws ws' : va_W} (e : ws'.map Prod.fst = ws.map Prod.fst) (h : va_D A ws) : va_D A ws' := by
  have g : ∀ (i : Nat) (p : Nat × va_E), ws'[i]? = some p → ∃ p' : Nat × va_E, ws[i]? = some p' ∧ p'.1 = p.1 := by
    intro i p hp
    have h1 : (ws'.map Prod.fst)[i]? = some p.1 := by rw [List.getElem?_map, hp]; rfl
    rw [e, List.getElem?_map] at h1
    cases hw : ws[i]? with
    | none => rw [hw] at h1; cases h1
    | some p' => rw [hw] at h1; exact ⟨p', rfl, Option.some.inj h1⟩
  refine ⟨fun i j p q hp hq hpq => ?_, fun k q hq => ?_⟩
  · obtain ⟨p', h1, h2⟩ := g i p hp
    obtain ⟨q', h3, h4⟩ := g j q hq
    exact h.1 i j p' q' h1 h3 (by rw [h2, h4]; exact hpq)
  · obtain ⟨q', h1, h2⟩ := g k q hq
    rw [← h2]
    exact h.2 k q' h1
theorem rep_world {D : va_G} {A : Nat → Prop} {ws W1 w2 : va_W} {H H1 : Heap} (hP : va_P D vwCl ws H) (hD : va_D A ws) (is : List Nat) (hC : is.map (fun i => ws[i]?) = W1.map some) (ha : w2.map Prod.fst = W1.map Prod.fst) (hk : ∀ q : Nat, q < H.size → ¬ va_A W1 H.size q → H1[q]? = H[q]?) (hP1 : va_P D vwCl w2 H1) : va_P D vwCl (rep ws is w2) H1 ∧ va_D A (rep ws is w2) := by
  have hlen : is.length = w2.length := by
    have h1 := congrArg List.length hC
    have h2 := congrArg List.length ha
    simp only [List.length_map] at h1 h2
    omega
  have hC' : ∀ (k : Nat) (q : Nat × va_E), W1[k]? = some q → ∃ i, is[k]? = some i ∧ ws[i]? = some q := by
    intro k q hq
    have h1 : (W1.map some)[k]? = some (some q) := by rw [List.getElem?_map, hq]; rfl
    rw [← hC, List.getElem?_map] at h1
    cases hi : is[k]? with
    | none => rw [hi] at h1; cases h1
    | some i => rw [hi] at h1; exact ⟨i, rfl, Option.some.inj h1⟩
  constructor
  · intro k q hq
    rcases rep_get is w2 ws hlen k q hq with ⟨j, hj⟩ | ⟨h1, h2⟩
    · exact hP1 j q hj
    · have hat := hP k q h1
      refine hat.kept (hk q.1 hat.lt ?_)
      rintro (⟨k', e', hw⟩ | hge)
      · obtain ⟨i, hi, hwi⟩ := hC' k' _ hw
        have : i = k := hD.1 i k _ q hwi h1 rfl
        exact h2 (this ▸ List.mem_of_getElem? hi)
      · exact absurd hat.lt (Nat.not_lt.mpr hge)
  · refine va_D.addr (rep_addr is w2 ws ?_) hD
    have h3 : is.map (fun i => (ws.map Prod.fst)[i]?) = (is.map (fun i => ws[i]?)).map (fun o => o.map Prod.fst) := by
      rw [List.map_map]
      exact List.map_congr_left (fun i _ => by rw [List.getElem?_map]; rfl)
    have h4 : w2.map (fun q => some q.1) = (w2.map Prod.fst).map some := by rw [List.map_map]; rfl
    rw [h3, hC, List.map_map, h4, ha, List.map_map]
    rfl
theorem sub_world {D : va_G} {ws W1 : va_W} {H : Heap} (hP : va_P D vwCl ws H) (is : List Nat) (hC : is.map (fun i => ws[i]?) = W1.map some) : va_P D vwCl W1 H := by
  intro k q hq
  have h1 : (W1.map some)[k]? = some (some q) := by rw [List.getElem?_map, hq]; rfl
  rw [← hC, List.getElem?_map] at h1
  cases hi : is[k]? with
  | none => rw [hi] at h1; cases h1
  | some i => rw [hi] at h1; exact hP i q (Option.some.inj h1)
/-! ## contracts: of a method that makes no cells -/
def KPre (G : pG) (W1 : va_W) (sz : Nat) (U : State) : Prop := U.heap.size = sz ∧ va_P (gD G) vwCl W1 U.heap ∧ va_K (gD G) vwCl (gT G) U ∧ va_D (fun _ => True) W1 ∧ gE G (va_A W1 sz) U U.heap
theorem KPre.blind {G : pG} {W1 : va_W} {sz : Nat} {av : List Value} : FrameBlind (va_Pc av (KPre G W1 sz)) := by
  intro a U g mk q
  obtain ⟨q0, q1, qP, qK, qD, qE⟩ := q
  exact ⟨q0, q1, qP, va_K.moved (u := U) (U := U.calling g mk a) (Vm.Alike.refl U.vm) qK, qD, qE.call⟩
def KI (l : Launch) (G : pG) (y : MethodName) (wy : List Cond) (rm : Room) (av : List Value) (W1 : va_W) {S : Type} (ok : S → Prop) (rv : S → Int32) (W2 : S → va_W) : Prop :=
  (∀ u, (W2 u).map Prod.fst = W1.map Prod.fst) ∧ ∀ sz, Met l y wy rm (va_Pc av (KPre G W1 sz)) (va_Qi (fun r u => r = rv u ∧ ok u) (fun u t => va_P (gD G) vwCl (W2 u) t.heap) (va_A W1 sz)) 0 0 (va_A W1 sz)
def KL (l : Launch) (G : pG) (y : MethodName) (wy : List Cond) (rm : Room) (av : List Value) (W1 : va_W) {S : Type} (ok : S → Prop) (rv : S → Int64) (W2 : S → va_W) : Prop :=
  (∀ u, (W2 u).map Prod.fst = W1.map Prod.fst) ∧ ∀ sz, Met l y wy rm (va_Pc av (KPre G W1 sz)) (va_Ql (fun r u => r = rv u ∧ ok u) (fun u t => va_P (gD G) vwCl (W2 u) t.heap) (va_A W1 sz)) 0 0 (va_A W1 sz)
def KV (l : Launch) (G : pG) (y : MethodName) (wy : List Cond) (rm : Room) (av : List Value) (W1 : va_W) {S : Type} (ok : S → Prop) (W2 : S → va_W) : Prop :=
  (∀ u, (W2 u).map Prod.fst = W1.map Prod.fst) ∧ ∀ sz, Met l y wy rm (va_Pc av (KPre G W1 sz)) (va_Qv (fun u => ok u) (fun u t => va_P (gD G) vwCl (W2 u) t.heap) (va_A W1 sz)) 0 0 (va_A W1 sz)
def KQ (l : Launch) (G : pG) (y : MethodName) (wy : List Cond) (rm : Room) (av : List Value) (W1 : va_W) {S : Type} (ok : S → Prop) (rv : S → Option Nat) (W2 : S → va_W) : Prop :=
  (∀ u, (W2 u).map Prod.fst = W1.map Prod.fst) ∧ ∀ sz, Met l y wy rm (va_Pc av (KPre G W1 sz)) (va_Qq (fun r u => r = rv u ∧ ok u) (fun u t => va_P (gD G) vwCl (W2 u) t.heap) (va_A W1 sz)) 0 0 (va_A W1 sz)
def RI (G : pG) (K : pK) (cc : ByteArray) (ty : FieldType) {S : Type} (ok : S → Prop) (rv : S → Int32) (W2 : S → va_W) : Prop := ∀ (u : S) (lv : List (Nat × Value)) (pc : Nat) (v : Int32) (ws : va_W), decode cc pc = .ok (.ireturn, 1) → narrow ty (.int v) = .int v → v = rv u → ws = W2 u → ok u → JJ G K 0 0 ws lv pc [.int v]
def RL' (G : pG) (K : pK) (cc : ByteArray) {S : Type} (ok : S → Prop) (rv : S → Int64) (W2 : S → va_W) : Prop := ∀ (u : S) (lv : List (Nat × Value)) (pc : Nat) (v : Int64) (ws : va_W), decode cc pc = .ok (.lreturn, 1) → v = rv u → ws = W2 u → ok u → JJ G K 0 0 ws lv pc [.long v]
def RV (G : pG) (K : pK) (cc : ByteArray) {S : Type} (ok : S → Prop) (W2 : S → va_W) : Prop := ∀ (u : S) (lv : List (Nat × Value)) (pc : Nat) (ws : va_W), decode cc pc = .ok (.return_, 1) → ws = W2 u → ok u → JJ G K 0 0 ws lv pc []
def RQ (G : pG) (K : pK) (cc : ByteArray) {S : Type} (ok : S → Prop) (rv : S → Option Nat) (W2 : S → va_W) : Prop := ∀ (u : S) (lv : List (Nat × Value)) (pc : Nat) (v : Value) (ws : va_W), decode cc pc = .ok (.areturn, 1) → v = va_rf (rv u) → ws = W2 u → ok u → JJ G K 0 0 ws lv pc [v]
theorem ki_of {l : Launch} {G : pG} {y : MethodName} {wy ws' : List Cond} {rm : Room} {av : List Value} {W1 : va_W} {S : Type} {ok : S → Prop} {rv : S → Int32} {W2 : S → va_W} {own : String} {cc : ByteArray} {nL : Nat} {ty : FieldType} (lv0 : List (Nat × Value)) (hy : plainFor y = true) (hw : wy = Cond.code y cc nL (some ty) :: ws') (hcl : y.cls = own) (hav : (lg_sl av).length ≤ nL) (hlv : lv_args 0 av = lv0) (ha : ∀ u, (W2 u).map Prod.fst = W1.map Prod.fst)
    (body : ∀ K : pK, CX G K cc own wy nL rm → RI G K cc ty ok rv W2 → JJ G K 0 0 W1 lv0 0 []) : KI l G y wy rm av W1 ok rv W2 := by
  refine ⟨ha, fun sz => ?_⟩
  refine va_MetF (cc := cc) (maxL := nL) (ret := some ty) hy hw ?_
  intro p e s m args below meth c s₁ B hml hv
  obtain ⟨rfl, hsz, hP, hK, hD0, hE⟩ := hv
  have hts := atoms_spec (ws := wy) B.pre
  have hown : s.vm.findClass own = some m.cls := hcl ▸ findClass_of_methodNamed B.named
  subst hsz
  have hD := hD0.self (sz := s.heap.size)
  have hl := lv_entry av (n := nL) hav
  rw [lg_entry_eq]
  rw [hlv] at hl
  have cx : CX G (p, l, e, rm, s, m, av.toArray, below, meth, c, MQ below (va_Qi (fun r u => r = rv u ∧ ok u) (fun u t => va_P (gD G) vwCl (W2 u) t.heap) (va_A W1 s.heap.size)) av.toArray s 0 0 (va_A W1 s.heap.size), va_A W1 s.heap.size, nL) cc own wy nL rm := ⟨B.exec, B.bytes, hts, hown, hK, fun q h => Or.inr h, hml, rfl, rfl, hE, B.notSynchronized⟩
  refine body _ cx ?_ s.heap [] _ hP hD va_S.rf hl
  · intro u lv pc v ws hdg hn hv' hws hok H locs ls hP hD hS hl
    subst hv'; subst hws
    exact W.zret B.exec B.bytes B.returns hn (fun t ht hW => ⟨⟨_, u, rfl, ⟨rfl, hok⟩, by show va_P (gD G) vwCl (W2 u) t.heap; rw [ht]; exact hP⟩, hS.F ht⟩) hS.2.2 hdg B.notSynchronized
theorem kv_of {l : Launch} {G : pG} {y : MethodName} {wy ws' : List Cond} {rm : Room} {av : List Value} {W1 : va_W} {S : Type} {ok : S → Prop} {W2 : S → va_W} {own : String} {cc : ByteArray} {nL : Nat} (lv0 : List (Nat × Value)) (hy : plainFor y = true) (hw : wy = Cond.code y cc nL none :: ws') (hcl : y.cls = own) (hav : (lg_sl av).length ≤ nL) (hlv : lv_args 0 av = lv0) (ha : ∀ u, (W2 u).map Prod.fst = W1.map Prod.fst)
    (body : ∀ K : pK, CX G K cc own wy nL rm → RV G K cc ok W2 → JJ G K 0 0 W1 lv0 0 []) : KV l G y wy rm av W1 ok W2 := by
  refine ⟨ha, fun sz => ?_⟩
  refine va_MetF (cc := cc) (maxL := nL) (ret := none) hy hw ?_
  intro p e s m args below meth c s₁ B hml hv
  obtain ⟨rfl, hsz, hP, hK, hD0, hE⟩ := hv
  have hts := atoms_spec (ws := wy) B.pre
  have hown : s.vm.findClass own = some m.cls := hcl ▸ findClass_of_methodNamed B.named
  subst hsz
  have hD := hD0.self (sz := s.heap.size)
  have hl := lv_entry av (n := nL) hav
  rw [lg_entry_eq]
  rw [hlv] at hl
  have cx : CX G (p, l, e, rm, s, m, av.toArray, below, meth, c, MQ below (va_Qv (fun u => ok u) (fun u t => va_P (gD G) vwCl (W2 u) t.heap) (va_A W1 s.heap.size)) av.toArray s 0 0 (va_A W1 s.heap.size), va_A W1 s.heap.size, nL) cc own wy nL rm := ⟨B.exec, B.bytes, hts, hown, hK, fun q h => Or.inr h, hml, rfl, rfl, hE, B.notSynchronized⟩
  refine body _ cx ?_ s.heap [] _ hP hD va_S.rf hl
  · intro u lv pc ws hdg hws hok H locs ls hP hD hS hl
    subst hws
    exact W.vret B.exec B.bytes B.returns (fun t ht hW => ⟨⟨u, rfl, hok, by show va_P (gD G) vwCl (W2 u) t.heap; rw [ht]; exact hP⟩, hS.F ht⟩) hS.2.2 hdg B.notSynchronized
theorem kl_of {l : Launch} {G : pG} {y : MethodName} {wy ws' : List Cond} {rm : Room} {av : List Value} {W1 : va_W} {S : Type} {ok : S → Prop} {rv : S → Int64} {W2 : S → va_W} {own : String} {cc : ByteArray} {nL : Nat} (lv0 : List (Nat × Value)) (hy : plainFor y = true) (hw : wy = Cond.code y cc nL (some .long) :: ws') (hcl : y.cls = own) (hav : (lg_sl av).length ≤ nL) (hlv : lv_args 0 av = lv0) (ha : ∀ u, (W2 u).map Prod.fst = W1.map Prod.fst)
    (body : ∀ K : pK, CX G K cc own wy nL rm → RL' G K cc ok rv W2 → JJ G K 0 0 W1 lv0 0 []) : KL l G y wy rm av W1 ok rv W2 := by
  refine ⟨ha, fun sz => ?_⟩
  refine va_MetF (cc := cc) (maxL := nL) (ret := some .long) hy hw ?_
  intro p e s m args below meth c s₁ B hml hv
  obtain ⟨rfl, hsz, hP, hK, hD0, hE⟩ := hv
  have hts := atoms_spec (ws := wy) B.pre
  have hown : s.vm.findClass own = some m.cls := hcl ▸ findClass_of_methodNamed B.named
  subst hsz
  have hD := hD0.self (sz := s.heap.size)
  have hl := lv_entry av (n := nL) hav
  rw [lg_entry_eq]
  rw [hlv] at hl
  have cx : CX G (p, l, e, rm, s, m, av.toArray, below, meth, c, MQ below (va_Ql (fun r u => r = rv u ∧ ok u) (fun u t => va_P (gD G) vwCl (W2 u) t.heap) (va_A W1 s.heap.size)) av.toArray s 0 0 (va_A W1 s.heap.size), va_A W1 s.heap.size, nL) cc own wy nL rm := ⟨B.exec, B.bytes, hts, hown, hK, fun q h => Or.inr h, hml, rfl, rfl, hE, B.notSynchronized⟩
  refine body _ cx ?_ s.heap [] _ hP hD va_S.rf hl
  · intro u lv pc v ws hdg hv' hws hok H locs ls hP hD hS hl
    subst hv'; subst hws
    exact W.lret B.exec B.bytes B.returns (fun t ht hW => ⟨⟨_, u, rfl, ⟨rfl, hok⟩, by show va_P (gD G) vwCl (W2 u) t.heap; rw [ht]; exact hP⟩, hS.F ht⟩) hS.2.2 hdg B.notSynchronized
theorem kq_of {l : Launch} {G : pG} {y : MethodName} {wy ws' : List Cond} {rm : Room} {av : List Value} {W1 : va_W} {S : Type} {ok : S → Prop} {rv : S → Option Nat} {W2 : S → va_W} {own : String} {cc : ByteArray} {nL : Nat} {ty : FieldType} (lv0 : List (Nat × Value)) (hy : plainFor y = true) (hw : wy = Cond.code y cc nL (some ty) :: ws') (hcl : y.cls = own) (hav : (lg_sl av).length ≤ nL) (hlv : lv_args 0 av = lv0) (hrt : (∃ n, ty = .object n) ∨ ∃ t, ty = .array t) (ha : ∀ u, (W2 u).map Prod.fst = W1.map Prod.fst)
    (body : ∀ K : pK, CX G K cc own wy nL rm → RQ G K cc ok rv W2 → JJ G K 0 0 W1 lv0 0 []) : KQ l G y wy rm av W1 ok rv W2 := by
  refine ⟨ha, fun sz => ?_⟩
  refine va_MetF (cc := cc) (maxL := nL) (ret := some ty) hy hw ?_
  intro p e s m args below meth c s₁ B hml hv
  obtain ⟨rfl, hsz, hP, hK, hD0, hE⟩ := hv
  have hts := atoms_spec (ws := wy) B.pre
  have hown : s.vm.findClass own = some m.cls := hcl ▸ findClass_of_methodNamed B.named
  subst hsz
  have hD := hD0.self (sz := s.heap.size)
  have hl := lv_entry av (n := nL) hav
  rw [lg_entry_eq]
  rw [hlv] at hl
  have cx : CX G (p, l, e, rm, s, m, av.toArray, below, meth, c, MQ below (va_Qq (fun r u => r = rv u ∧ ok u) (fun u t => va_P (gD G) vwCl (W2 u) t.heap) (va_A W1 s.heap.size)) av.toArray s 0 0 (va_A W1 s.heap.size), va_A W1 s.heap.size, nL) cc own wy nL rm := ⟨B.exec, B.bytes, hts, hown, hK, fun q h => Or.inr h, hml, rfl, rfl, hE, B.notSynchronized⟩
  refine body _ cx ?_ s.heap [] _ hP hD va_S.rf hl
  · intro u lv pc v ws hdg hv' hws hok H locs ls hP hD hS hl
    subst hv'; subst hws
    exact W.aret B.exec B.bytes B.returns hrt (by cases rv u with | none => exact Or.inl rfl | some a => exact Or.inr ⟨a, rfl⟩) (fun t ht hW => ⟨⟨_, u, rfl, ⟨rfl, hok⟩, by show va_P (gD G) vwCl (W2 u) t.heap; rw [ht]; exact hP⟩, hS.F ht⟩) hS.2.2 hdg B.notSynchronized
section JT
variable {G : pG} {K : pK} {cc : ByteArray} {own : String} {Ts : List Cond} {nL : Nat} {rm : Room} {ws : va_W} {lv : List (Nat × Value)} {st : List Value}
theorem pre_at (cx : CX G K cc own Ts nL rm) {W1 : va_W} {H : Heap} {locs : List Loc} (hP : va_P (gD G) vwCl ws H) (hD : va_D (kA K) ws) (hS : va_S (kA K) (ks K).heap H locs) (is : List Nat) (hC : is.map (fun i => ws[i]?) = W1.map some) (hn : va_nd is = true) (av : List Value) : ∀ U : State, U.heap = H → (ks K).WarmedH U.vm → va_Pc av (KPre G W1 H.size) av.toArray U := by
  intro U hU hW
  have hF := va_free (wc := W1) hD hS cx.2.2.2.2.2.1 is hC
  refine ⟨rfl, by rw [hU], by rw [hU]; exact sub_world hP is hC, va_K.moved hW.alike cx.2.2.2.2.1, (hD.sub is hn hC).weaken (fun _ _ _ _ => trivial), ?_⟩
  rw [hU]
  exact ((cx.2.2.2.2.2.2.2.2.2.1.kept (fun a h1 h2 => hS.2.1 a h1 h2)).narrow hF).warm hW
theorem j_callV_i (pc : Nat) (cx : CX G K cc own Ts nL rm) (n : Nat) (is : List Nat) (As : List Value) {cells slots : Nat} {b : Nat} {y : MethodName} {wy ws' : List Cond} {bytes : ByteArray} {maxL : Nat} {ret : Option FieldType} {rm' : Room} {W1 : va_W} {S : Type} {ok : S → Prop} {rv : S → Int32} {W2 : S → va_W} (WF : S → va_W) (hM : KI (kl K) G y wy rm' (.ref b :: As) W1 ok rv W2) {index : Nat} {C : String} (hT : GoodIn Ts (wsV own index C y wy)) (hw : wy = Cond.code y bytes maxL ret :: ws') (hrc : rm'.cells = 0) (hrs : rm'.slots = 0) (hd : y.cls = C ∧ y.cls ≠ "java/lang/invoke/MethodHandle" ∧ y.cls ≠ "java/lang/invoke/VarHandle" ∧ (parseMethodDescriptor y.desc).map (fun d => d.parameters.length) = some n) (hR : rm'.frames + 1 ≤ rm.frames ∧ 8 + (maxL + 11) + rm'.locals ≤ rm.locals) (hce : cells ≤ rm.cells ∧ slots ≤ rm.slots)
    (hC : is.map (fun i => ws[i]?) = W1.map some) (hn : va_nd is = true) (q0 : Nat) {ci : Nat} {fs : List Value} {qc : vw_C} (hrv : W1[q0]? = some (b, .inr (ci, fs))) (hqc : vwCl[ci]? = some qc) (hqC : qc.1 = C) (hlen : As.length = n) {st0 : List Value} (hst : st0 = As.reverse ++ .ref b :: st) (hroom : (st.map fun v => v.category).sum ≤ 8) (hdg : decode cc pc = .ok (.invokevirtual index, 3)) (hWF : ∀ u, rep ws is (W2 u) = WF u)
    (kk : ∀ u, ok u → JJ G K cells slots (WF u) lv (pc + 3) (.int (rv u) :: st)) : JJ G K cells slots ws lv pc st0 := by
  subst hst
  intro H locs ls hP hD hS hl
  obtain ⟨c1, c2, c3, c4, c5, c6, c7, c8, c9, c10, c11⟩ := id cx
  have hF := va_free (wc := W1) hD hS c6 is hC
  refine va_calli (va_runV (As := As) (rest := st) ⟨c1, c2, c7, c4, c3⟩ (hM.2 H.size) (cwV n c3 hT hw hrc hrs hd (by rw [c9]; exact hR)) ⟨KPre.blind, by rw [← hqC]; exact va_recv c5 (sub_world hP is hC) hqc hrv, pre_at cx hP hD hS is hC hn (.ref b :: As)⟩ rfl hlen (hl.1.trans c8) rfl (lv_room hroom) hdg (by rw [c9]; exact hce)) hS (fun q _ h => hF q h) hF (fun r u t H1 locs1 ht hvm hw hB hz1 hk1 hS => ?_)
  obtain ⟨rfl, hok⟩ := hw
  have h9 := rep_world hP hD is hC (hM.1 u) hk1 (by have hB9 : va_P (gD G) vwCl (W2 u) t.heap := hB; rw [ht] at hB9; exact hB9)
  rw [hWF u] at h9
  exact kk u hok H1 locs1 ls h9.1 h9.2 hS hl
theorem j_callS_i (pc : Nat) (cx : CX G K cc own Ts nL rm) (n : Nat) (is : List Nat) (As : List Value) {cells slots : Nat} {y : MethodName} {wy ws' : List Cond} {bytes : ByteArray} {maxL : Nat} {ret : Option FieldType} {rm' : Room} {W1 : va_W} {S : Type} {ok : S → Prop} {rv : S → Int32} {W2 : S → va_W} (WF : S → va_W) (hM : KI (kl K) G y wy rm' As W1 ok rv W2) {index : Nat} (hT : GoodIn Ts (va_wsS own index y wy)) (hw : wy = Cond.code y bytes maxL ret :: ws') (hrc : rm'.cells = 0) (hrs : rm'.slots = 0) (hd : y.cls ≠ "java/lang/invoke/MethodHandle" ∧ y.cls ≠ "java/lang/invoke/VarHandle" ∧ (parseMethodDescriptor y.desc).map (fun d => d.parameters.length) = some n) (hR : rm'.frames + 1 ≤ rm.frames ∧ 8 + (maxL + 11) + rm'.locals ≤ rm.locals) (hce : cells ≤ rm.cells ∧ slots ≤ rm.slots)
    (hC : is.map (fun i => ws[i]?) = W1.map some) (hn : va_nd is = true) (hlen : As.length = n) {st0 : List Value} (hst : st0 = As.reverse ++ st) (hroom : (st.map fun v => v.category).sum ≤ 8) (hdg : decode cc pc = .ok (.invokestatic index, 3)) (hWF : ∀ u, rep ws is (W2 u) = WF u)
    (kk : ∀ u, ok u → JJ G K cells slots (WF u) lv (pc + 3) (.int (rv u) :: st)) : JJ G K cells slots ws lv pc st0 := by
  subst hst
  intro H locs ls hP hD hS hl
  obtain ⟨c1, c2, c3, c4, c5, c6, c7, c8, c9, c10, c11⟩ := id cx
  have hF := va_free (wc := W1) hD hS c6 is hC
  refine va_calli (va_runS (As := As) (rest := st) ⟨c1, c2, c7, c4, c3⟩ (hM.2 H.size) (va_cwS n c3 hT hw hrc hrs hd (by rw [c9]; exact hR)) ⟨KPre.blind, pre_at cx hP hD hS is hC hn As⟩ rfl hlen (hl.1.trans c8) rfl (lv_room hroom) hdg (by rw [c9]; exact hce)) hS (fun q _ h => hF q h) hF (fun r u t H1 locs1 ht hvm hw hB hz1 hk1 hS => ?_)
  obtain ⟨rfl, hok⟩ := hw
  have h9 := rep_world hP hD is hC (hM.1 u) hk1 (by have hB9 : va_P (gD G) vwCl (W2 u) t.heap := hB; rw [ht] at hB9; exact hB9)
  rw [hWF u] at h9
  exact kk u hok H1 locs1 ls h9.1 h9.2 hS hl
theorem j_callV_v (pc : Nat) (cx : CX G K cc own Ts nL rm) (n : Nat) (is : List Nat) (As : List Value) {cells slots : Nat} {b : Nat} {y : MethodName} {wy ws' : List Cond} {bytes : ByteArray} {maxL : Nat} {ret : Option FieldType} {rm' : Room} {W1 : va_W} {S : Type} {ok : S → Prop} {W2 : S → va_W} (WF : S → va_W) (hM : KV (kl K) G y wy rm' (.ref b :: As) W1 ok W2) {index : Nat} {C : String} (hT : GoodIn Ts (wsV own index C y wy)) (hw : wy = Cond.code y bytes maxL ret :: ws') (hrc : rm'.cells = 0) (hrs : rm'.slots = 0) (hd : y.cls = C ∧ y.cls ≠ "java/lang/invoke/MethodHandle" ∧ y.cls ≠ "java/lang/invoke/VarHandle" ∧ (parseMethodDescriptor y.desc).map (fun d => d.parameters.length) = some n) (hR : rm'.frames + 1 ≤ rm.frames ∧ 8 + (maxL + 11) + rm'.locals ≤ rm.locals) (hce : cells ≤ rm.cells ∧ slots ≤ rm.slots)
    (hC : is.map (fun i => ws[i]?) = W1.map some) (hn : va_nd is = true) (q0 : Nat) {ci : Nat} {fs : List Value} {qc : vw_C} (hrv : W1[q0]? = some (b, .inr (ci, fs))) (hqc : vwCl[ci]? = some qc) (hqC : qc.1 = C) (hlen : As.length = n) {st0 : List Value} (hst : st0 = As.reverse ++ .ref b :: st) (hroom : (st.map fun v => v.category).sum ≤ 8) (hdg : decode cc pc = .ok (.invokevirtual index, 3)) (hWF : ∀ u, rep ws is (W2 u) = WF u)
    (kk : ∀ u, ok u → JJ G K cells slots (WF u) lv (pc + 3) (st)) : JJ G K cells slots ws lv pc st0 := by
  subst hst
  intro H locs ls hP hD hS hl
  obtain ⟨c1, c2, c3, c4, c5, c6, c7, c8, c9, c10, c11⟩ := id cx
  have hF := va_free (wc := W1) hD hS c6 is hC
  refine va_callv (va_runV (As := As) (rest := st) ⟨c1, c2, c7, c4, c3⟩ (hM.2 H.size) (cwV n c3 hT hw hrc hrs hd (by rw [c9]; exact hR)) ⟨KPre.blind, by rw [← hqC]; exact va_recv c5 (sub_world hP is hC) hqc hrv, pre_at cx hP hD hS is hC hn (.ref b :: As)⟩ rfl hlen (hl.1.trans c8) rfl (lv_room hroom) hdg (by rw [c9]; exact hce)) hS (fun q _ h => hF q h) hF (fun u t H1 locs1 ht hvm hw hB hz1 hk1 hS => ?_)
  have hok := hw
  have h9 := rep_world hP hD is hC (hM.1 u) hk1 (by have hB9 : va_P (gD G) vwCl (W2 u) t.heap := hB; rw [ht] at hB9; exact hB9)
  rw [hWF u] at h9
  exact kk u hok H1 locs1 ls h9.1 h9.2 hS hl
theorem j_callS_v (pc : Nat) (cx : CX G K cc own Ts nL rm) (n : Nat) (is : List Nat) (As : List Value) {cells slots : Nat} {y : MethodName} {wy ws' : List Cond} {bytes : ByteArray} {maxL : Nat} {ret : Option FieldType} {rm' : Room} {W1 : va_W} {S : Type} {ok : S → Prop} {W2 : S → va_W} (WF : S → va_W) (hM : KV (kl K) G y wy rm' As W1 ok W2) {index : Nat} (hT : GoodIn Ts (va_wsS own index y wy)) (hw : wy = Cond.code y bytes maxL ret :: ws') (hrc : rm'.cells = 0) (hrs : rm'.slots = 0) (hd : y.cls ≠ "java/lang/invoke/MethodHandle" ∧ y.cls ≠ "java/lang/invoke/VarHandle" ∧ (parseMethodDescriptor y.desc).map (fun d => d.parameters.length) = some n) (hR : rm'.frames + 1 ≤ rm.frames ∧ 8 + (maxL + 11) + rm'.locals ≤ rm.locals) (hce : cells ≤ rm.cells ∧ slots ≤ rm.slots)
    (hC : is.map (fun i => ws[i]?) = W1.map some) (hn : va_nd is = true) (hlen : As.length = n) {st0 : List Value} (hst : st0 = As.reverse ++ st) (hroom : (st.map fun v => v.category).sum ≤ 8) (hdg : decode cc pc = .ok (.invokestatic index, 3)) (hWF : ∀ u, rep ws is (W2 u) = WF u)
    (kk : ∀ u, ok u → JJ G K cells slots (WF u) lv (pc + 3) (st)) : JJ G K cells slots ws lv pc st0 := by
  subst hst
  intro H locs ls hP hD hS hl
  obtain ⟨c1, c2, c3, c4, c5, c6, c7, c8, c9, c10, c11⟩ := id cx
  have hF := va_free (wc := W1) hD hS c6 is hC
  refine va_callv (va_runS (As := As) (rest := st) ⟨c1, c2, c7, c4, c3⟩ (hM.2 H.size) (va_cwS n c3 hT hw hrc hrs hd (by rw [c9]; exact hR)) ⟨KPre.blind, pre_at cx hP hD hS is hC hn As⟩ rfl hlen (hl.1.trans c8) rfl (lv_room hroom) hdg (by rw [c9]; exact hce)) hS (fun q _ h => hF q h) hF (fun u t H1 locs1 ht hvm hw hB hz1 hk1 hS => ?_)
  have hok := hw
  have h9 := rep_world hP hD is hC (hM.1 u) hk1 (by have hB9 : va_P (gD G) vwCl (W2 u) t.heap := hB; rw [ht] at hB9; exact hB9)
  rw [hWF u] at h9
  exact kk u hok H1 locs1 ls h9.1 h9.2 hS hl
theorem j_callV_l (pc : Nat) (cx : CX G K cc own Ts nL rm) (n : Nat) (is : List Nat) (As : List Value) {cells slots : Nat} {b : Nat} {y : MethodName} {wy ws' : List Cond} {bytes : ByteArray} {maxL : Nat} {ret : Option FieldType} {rm' : Room} {W1 : va_W} {S : Type} {ok : S → Prop} {rv : S → Int64} {W2 : S → va_W} (WF : S → va_W) (hM : KL (kl K) G y wy rm' (.ref b :: As) W1 ok rv W2) {index : Nat} {C : String} (hT : GoodIn Ts (wsV own index C y wy)) (hw : wy = Cond.code y bytes maxL ret :: ws') (hrc : rm'.cells = 0) (hrs : rm'.slots = 0) (hd : y.cls = C ∧ y.cls ≠ "java/lang/invoke/MethodHandle" ∧ y.cls ≠ "java/lang/invoke/VarHandle" ∧ (parseMethodDescriptor y.desc).map (fun d => d.parameters.length) = some n) (hR : rm'.frames + 1 ≤ rm.frames ∧ 8 + (maxL + 11) + rm'.locals ≤ rm.locals) (hce : cells ≤ rm.cells ∧ slots ≤ rm.slots)
    (hC : is.map (fun i => ws[i]?) = W1.map some) (hn : va_nd is = true) (q0 : Nat) {ci : Nat} {fs : List Value} {qc : vw_C} (hrv : W1[q0]? = some (b, .inr (ci, fs))) (hqc : vwCl[ci]? = some qc) (hqC : qc.1 = C) (hlen : As.length = n) {st0 : List Value} (hst : st0 = As.reverse ++ .ref b :: st) (hroom : (st.map fun v => v.category).sum ≤ 8) (hdg : decode cc pc = .ok (.invokevirtual index, 3)) (hWF : ∀ u, rep ws is (W2 u) = WF u)
    (kk : ∀ u, ok u → JJ G K cells slots (WF u) lv (pc + 3) (.long (rv u) :: st)) : JJ G K cells slots ws lv pc st0 := by
  subst hst
  intro H locs ls hP hD hS hl
  obtain ⟨c1, c2, c3, c4, c5, c6, c7, c8, c9, c10, c11⟩ := id cx
  have hF := va_free (wc := W1) hD hS c6 is hC
  refine va_calll (va_runV (As := As) (rest := st) ⟨c1, c2, c7, c4, c3⟩ (hM.2 H.size) (cwV n c3 hT hw hrc hrs hd (by rw [c9]; exact hR)) ⟨KPre.blind, by rw [← hqC]; exact va_recv c5 (sub_world hP is hC) hqc hrv, pre_at cx hP hD hS is hC hn (.ref b :: As)⟩ rfl hlen (hl.1.trans c8) rfl (lv_room hroom) hdg (by rw [c9]; exact hce)) hS (fun q _ h => hF q h) hF (fun r u t H1 locs1 ht hvm hw hB hz1 hk1 hS => ?_)
  obtain ⟨rfl, hok⟩ := hw
  have h9 := rep_world hP hD is hC (hM.1 u) hk1 (by have hB9 : va_P (gD G) vwCl (W2 u) t.heap := hB; rw [ht] at hB9; exact hB9)
  rw [hWF u] at h9
  exact kk u hok H1 locs1 ls h9.1 h9.2 hS hl
theorem j_callS_l (pc : Nat) (cx : CX G K cc own Ts nL rm) (n : Nat) (is : List Nat) (As : List Value) {cells slots : Nat} {y : MethodName} {wy ws' : List Cond} {bytes : ByteArray} {maxL : Nat} {ret : Option FieldType} {rm' : Room} {W1 : va_W} {S : Type} {ok : S → Prop} {rv : S → Int64} {W2 : S → va_W} (WF : S → va_W) (hM : KL (kl K) G y wy rm' As W1 ok rv W2) {index : Nat} (hT : GoodIn Ts (va_wsS own index y wy)) (hw : wy = Cond.code y bytes maxL ret :: ws') (hrc : rm'.cells = 0) (hrs : rm'.slots = 0) (hd : y.cls ≠ "java/lang/invoke/MethodHandle" ∧ y.cls ≠ "java/lang/invoke/VarHandle" ∧ (parseMethodDescriptor y.desc).map (fun d => d.parameters.length) = some n) (hR : rm'.frames + 1 ≤ rm.frames ∧ 8 + (maxL + 11) + rm'.locals ≤ rm.locals) (hce : cells ≤ rm.cells ∧ slots ≤ rm.slots)
    (hC : is.map (fun i => ws[i]?) = W1.map some) (hn : va_nd is = true) (hlen : As.length = n) {st0 : List Value} (hst : st0 = As.reverse ++ st) (hroom : (st.map fun v => v.category).sum ≤ 8) (hdg : decode cc pc = .ok (.invokestatic index, 3)) (hWF : ∀ u, rep ws is (W2 u) = WF u)
    (kk : ∀ u, ok u → JJ G K cells slots (WF u) lv (pc + 3) (.long (rv u) :: st)) : JJ G K cells slots ws lv pc st0 := by
  subst hst
  intro H locs ls hP hD hS hl
  obtain ⟨c1, c2, c3, c4, c5, c6, c7, c8, c9, c10, c11⟩ := id cx
  have hF := va_free (wc := W1) hD hS c6 is hC
  refine va_calll (va_runS (As := As) (rest := st) ⟨c1, c2, c7, c4, c3⟩ (hM.2 H.size) (va_cwS n c3 hT hw hrc hrs hd (by rw [c9]; exact hR)) ⟨KPre.blind, pre_at cx hP hD hS is hC hn As⟩ rfl hlen (hl.1.trans c8) rfl (lv_room hroom) hdg (by rw [c9]; exact hce)) hS (fun q _ h => hF q h) hF (fun r u t H1 locs1 ht hvm hw hB hz1 hk1 hS => ?_)
  obtain ⟨rfl, hok⟩ := hw
  have h9 := rep_world hP hD is hC (hM.1 u) hk1 (by have hB9 : va_P (gD G) vwCl (W2 u) t.heap := hB; rw [ht] at hB9; exact hB9)
  rw [hWF u] at h9
  exact kk u hok H1 locs1 ls h9.1 h9.2 hS hl
theorem j_callV_q (pc : Nat) (cx : CX G K cc own Ts nL rm) (n : Nat) (is : List Nat) (As : List Value) {cells slots : Nat} {b : Nat} {y : MethodName} {wy ws' : List Cond} {bytes : ByteArray} {maxL : Nat} {ret : Option FieldType} {rm' : Room} {W1 : va_W} {S : Type} {ok : S → Prop} {rv : S → Option Nat} {W2 : S → va_W} (WF : S → va_W) (hM : KQ (kl K) G y wy rm' (.ref b :: As) W1 ok rv W2) {index : Nat} {C : String} (hT : GoodIn Ts (wsV own index C y wy)) (hw : wy = Cond.code y bytes maxL ret :: ws') (hrc : rm'.cells = 0) (hrs : rm'.slots = 0) (hd : y.cls = C ∧ y.cls ≠ "java/lang/invoke/MethodHandle" ∧ y.cls ≠ "java/lang/invoke/VarHandle" ∧ (parseMethodDescriptor y.desc).map (fun d => d.parameters.length) = some n) (hR : rm'.frames + 1 ≤ rm.frames ∧ 8 + (maxL + 11) + rm'.locals ≤ rm.locals) (hce : cells ≤ rm.cells ∧ slots ≤ rm.slots)
    (hC : is.map (fun i => ws[i]?) = W1.map some) (hn : va_nd is = true) (q0 : Nat) {ci : Nat} {fs : List Value} {qc : vw_C} (hrv : W1[q0]? = some (b, .inr (ci, fs))) (hqc : vwCl[ci]? = some qc) (hqC : qc.1 = C) (hlen : As.length = n) {st0 : List Value} (hst : st0 = As.reverse ++ .ref b :: st) (hroom : (st.map fun v => v.category).sum ≤ 8) (hdg : decode cc pc = .ok (.invokevirtual index, 3)) (hWF : ∀ u, rep ws is (W2 u) = WF u)
    (kk : ∀ u, ok u → JJ G K cells slots (WF u) lv (pc + 3) (va_rf (rv u) :: st)) : JJ G K cells slots ws lv pc st0 := by
  subst hst
  intro H locs ls hP hD hS hl
  obtain ⟨c1, c2, c3, c4, c5, c6, c7, c8, c9, c10, c11⟩ := id cx
  have hF := va_free (wc := W1) hD hS c6 is hC
  refine va_callq (va_runV (As := As) (rest := st) ⟨c1, c2, c7, c4, c3⟩ (hM.2 H.size) (cwV n c3 hT hw hrc hrs hd (by rw [c9]; exact hR)) ⟨KPre.blind, by rw [← hqC]; exact va_recv c5 (sub_world hP is hC) hqc hrv, pre_at cx hP hD hS is hC hn (.ref b :: As)⟩ rfl hlen (hl.1.trans c8) rfl (lv_room hroom) hdg (by rw [c9]; exact hce)) hS (fun q _ h => hF q h) hF (fun r u t H1 locs1 ht hvm hw hB hz1 hk1 hS => ?_)
  obtain ⟨rfl, hok⟩ := hw
  have h9 := rep_world hP hD is hC (hM.1 u) hk1 (by have hB9 : va_P (gD G) vwCl (W2 u) t.heap := hB; rw [ht] at hB9; exact hB9)
  rw [hWF u] at h9
  exact kk u hok H1 locs1 ls h9.1 h9.2 hS hl
end JT
